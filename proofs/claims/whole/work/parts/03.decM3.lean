theorem d_M_step_79 : decode md_M_step.2.1 79 = .ok (.goto 5, 3) := by decide +kernel
theorem d_M_step_82 : decode md_M_step.2.1 82 = .ok (.lload 6, 2) := by decide +kernel
theorem d_M_step_84 : decode md_M_step.2.1 84 = .ok (.lreturn, 1) := by decide +kernel
theorem d_M_step_85 : decode md_M_step.2.1 85 = .ok (.lload 6, 2) := by decide +kernel
theorem d_M_step_87 : decode md_M_step.2.1 87 = .ok (.lreturn, 1) := by decide +kernel
theorem d_M_step_88 : decode md_M_step.2.1 88 = .ok (.iload 8, 2) := by decide +kernel
theorem d_M_step_90 : decode md_M_step.2.1 90 = .ok (.ifCond .eq 8, 3) := by decide +kernel
theorem d_M_step_93 : decode md_M_step.2.1 93 = .ok (.lload 6, 2) := by decide +kernel
theorem d_M_step_95 : decode md_M_step.2.1 95 = .ok (.goto 4, 3) := by decide +kernel
theorem d_M_step_98 : decode md_M_step.2.1 98 = .ok (.lload_n 2, 1) := by decide +kernel
theorem d_M_step_99 : decode md_M_step.2.1 99 = .ok (.lreturn, 1) := by decide +kernel
theorem d_M_step_100 : decode md_M_step.2.1 100 = .ok (.lload_n 2, 1) := by decide +kernel
theorem d_M_step_101 : decode md_M_step.2.1 101 = .ok (.aload_n 0, 1) := by decide +kernel
theorem d_M_step_102 : decode md_M_step.2.1 102 = .ok (.getfield 17, 3) := by decide +kernel
theorem d_M_step_105 : decode md_M_step.2.1 105 = .ok (.iload_n 1, 1) := by decide +kernel
theorem d_M_step_106 : decode md_M_step.2.1 106 = .ok (.laload, 1) := by decide +kernel
theorem d_M_step_107 : decode md_M_step.2.1 107 = .ok (.lmul, 1) := by decide +kernel
theorem d_M_step_108 : decode md_M_step.2.1 108 = .ok (.lload 6, 2) := by decide +kernel
theorem d_M_step_110 : decode md_M_step.2.1 110 = .ok (.ladd, 1) := by decide +kernel
theorem d_M_step_111 : decode md_M_step.2.1 111 = .ok (.lreturn, 1) := by decide +kernel
theorem d_M_step_112 : decode md_M_step.2.1 112 = .ok (.lload_n 2, 1) := by decide +kernel
theorem d_M_step_113 : decode md_M_step.2.1 113 = .ok (.lconst 1, 1) := by decide +kernel
theorem d_M_step_114 : decode md_M_step.2.1 114 = .ok (.ladd, 1) := by decide +kernel
theorem d_M_step_115 : decode md_M_step.2.1 115 = .ok (.lreturn, 1) := by decide +kernel
theorem d_M_step_116 : decode md_M_step.2.1 116 = .ok (.lload_n 2, 1) := by decide +kernel
theorem d_M_step_117 : decode md_M_step.2.1 117 = .ok (.lload 6, 2) := by decide +kernel
theorem d_M_step_119 : decode md_M_step.2.1 119 = .ok (.aload_n 0, 1) := by decide +kernel
theorem d_M_step_120 : decode md_M_step.2.1 120 = .ok (.getfield 17, 3) := by decide +kernel
theorem d_M_step_123 : decode md_M_step.2.1 123 = .ok (.iload_n 1, 1) := by decide +kernel
theorem d_M_step_124 : decode md_M_step.2.1 124 = .ok (.laload, 1) := by decide +kernel
theorem d_M_step_125 : decode md_M_step.2.1 125 = .ok (.lmul, 1) := by decide +kernel
theorem d_M_step_126 : decode md_M_step.2.1 126 = .ok (.lxor, 1) := by decide +kernel
theorem d_M_step_127 : decode md_M_step.2.1 127 = .ok (.lreturn, 1) := by decide +kernel
theorem d_M_step_128 : decode md_M_step.2.1 128 = .ok (.iload 8, 2) := by decide +kernel
theorem d_M_step_130 : decode md_M_step.2.1 130 = .ok (.ifCond .eq 7, 3) := by decide +kernel
theorem d_M_step_133 : decode md_M_step.2.1 133 = .ok (.lconst 0, 1) := by decide +kernel
theorem d_M_step_134 : decode md_M_step.2.1 134 = .ok (.goto 8, 3) := by decide +kernel
theorem d_M_step_137 : decode md_M_step.2.1 137 = .ok (.lload 4, 2) := by decide +kernel
theorem d_M_step_139 : decode md_M_step.2.1 139 = .ok (.lload 9, 2) := by decide +kernel
theorem d_M_step_141 : decode md_M_step.2.1 141 = .ok (.lsub, 1) := by decide +kernel
theorem d_M_step_142 : decode md_M_step.2.1 142 = .ok (.lstore 11, 2) := by decide +kernel
theorem d_M_step_144 : decode md_M_step.2.1 144 = .ok (.lload_n 2, 1) := by decide +kernel
theorem d_M_step_145 : decode md_M_step.2.1 145 = .ok (.lload 11, 2) := by decide +kernel
theorem d_M_step_147 : decode md_M_step.2.1 147 = .ok (.lcmp, 1) := by decide +kernel
theorem d_M_step_148 : decode md_M_step.2.1 148 = .ok (.ifCond .le 7, 3) := by decide +kernel
theorem d_M_step_151 : decode md_M_step.2.1 151 = .ok (.lload_n 2, 1) := by decide +kernel
theorem d_M_step_152 : decode md_M_step.2.1 152 = .ok (.goto 5, 3) := by decide +kernel
theorem d_M_step_155 : decode md_M_step.2.1 155 = .ok (.lload 11, 2) := by decide +kernel
theorem d_M_step_157 : decode md_M_step.2.1 157 = .ok (.lreturn, 1) := by decide +kernel
theorem d_M_resume_0 : decode md_M_resume.2.1 0 = .ok (.aload_n 0, 1) := by decide +kernel
theorem d_M_resume_1 : decode md_M_resume.2.1 1 = .ok (.lload_n 1, 1) := by decide +kernel
theorem d_M_resume_2 : decode md_M_resume.2.1 2 = .ok (.invokevirtual 106, 3) := by decide +kernel
theorem d_M_resume_5 : decode md_M_resume.2.1 5 = .ok (.istore_n 3, 1) := by decide +kernel
theorem d_M_resume_6 : decode md_M_resume.2.1 6 = .ok (.aload_n 0, 1) := by decide +kernel
theorem d_M_resume_7 : decode md_M_resume.2.1 7 = .ok (.iload_n 3, 1) := by decide +kernel
theorem d_M_resume_8 : decode md_M_resume.2.1 8 = .ok (.iconst (-1), 1) := by decide +kernel
theorem d_M_resume_9 : decode md_M_resume.2.1 9 = .ok (.if_icmp .ne 7, 3) := by decide +kernel
theorem d_M_resume_12 : decode md_M_resume.2.1 12 = .ok (.iconst 1, 1) := by decide +kernel
theorem d_M_resume_13 : decode md_M_resume.2.1 13 = .ok (.goto 4, 3) := by decide +kernel
theorem d_M_resume_16 : decode md_M_resume.2.1 16 = .ok (.iconst 0, 1) := by decide +kernel
theorem d_M_resume_17 : decode md_M_resume.2.1 17 = .ok (.putfield 67, 3) := by decide +kernel
theorem d_M_resume_20 : decode md_M_resume.2.1 20 = .ok (.aload_n 0, 1) := by decide +kernel
theorem d_M_resume_21 : decode md_M_resume.2.1 21 = .ok (.getfield 67, 3) := by decide +kernel
theorem d_M_resume_24 : decode md_M_resume.2.1 24 = .ok (.ifCond .le 4, 3) := by decide +kernel
theorem d_M_resume_27 : decode md_M_resume.2.1 27 = .ok (.return_, 1) := by decide +kernel
theorem d_M_resume_28 : decode md_M_resume.2.1 28 = .ok (.aload_n 0, 1) := by decide +kernel
theorem d_M_resume_29 : decode md_M_resume.2.1 29 = .ok (.dup, 1) := by decide +kernel
theorem d_M_resume_30 : decode md_M_resume.2.1 30 = .ok (.getfield 77, 3) := by decide +kernel
theorem d_M_resume_33 : decode md_M_resume.2.1 33 = .ok (.iconst 1, 1) := by decide +kernel
theorem d_M_resume_34 : decode md_M_resume.2.1 34 = .ok (.isub, 1) := by decide +kernel
theorem d_M_resume_35 : decode md_M_resume.2.1 35 = .ok (.putfield 77, 3) := by decide +kernel
theorem d_M_resume_38 : decode md_M_resume.2.1 38 = .ok (.aload_n 0, 1) := by decide +kernel
theorem d_M_resume_39 : decode md_M_resume.2.1 39 = .ok (.getfield 41, 3) := by decide +kernel
theorem d_M_resume_42 : decode md_M_resume.2.1 42 = .ok (.iload_n 3, 1) := by decide +kernel
theorem d_M_resume_43 : decode md_M_resume.2.1 43 = .ok (.aload_n 0, 1) := by decide +kernel
theorem d_M_resume_44 : decode md_M_resume.2.1 44 = .ok (.getfield 41, 3) := by decide +kernel
theorem d_M_resume_47 : decode md_M_resume.2.1 47 = .ok (.aload_n 0, 1) := by decide +kernel
theorem d_M_resume_48 : decode md_M_resume.2.1 48 = .ok (.getfield 77, 3) := by decide +kernel
theorem d_M_resume_51 : decode md_M_resume.2.1 51 = .ok (.laload, 1) := by decide +kernel
theorem d_M_resume_52 : decode md_M_resume.2.1 52 = .ok (.lastore, 1) := by decide +kernel
theorem d_M_resume_53 : decode md_M_resume.2.1 53 = .ok (.return_, 1) := by decide +kernel
theorem d_M_state_0 : decode md_M_state.2.1 0 = .ok (.aload_n 0, 1) := by decide +kernel
theorem d_M_state_1 : decode md_M_state.2.1 1 = .ok (.lload_n 1, 1) := by decide +kernel
theorem d_M_state_2 : decode md_M_state.2.1 2 = .ok (.invokevirtual 125, 3) := by decide +kernel
theorem d_M_state_5 : decode md_M_state.2.1 5 = .ok (.istore 4, 2) := by decide +kernel
theorem d_M_state_7 : decode md_M_state.2.1 7 = .ok (.aload_n 0, 1) := by decide +kernel
theorem d_M_state_8 : decode md_M_state.2.1 8 = .ok (.aload_n 0, 1) := by decide +kernel
theorem d_M_state_9 : decode md_M_state.2.1 9 = .ok (.iload_n 3, 1) := by decide +kernel
theorem d_M_state_10 : decode md_M_state.2.1 10 = .ok (.invokevirtual 83, 3) := by decide +kernel
theorem d_M_state_13 : decode md_M_state.2.1 13 = .ok (.ifCond .eq 9, 3) := by decide +kernel
theorem d_M_state_16 : decode md_M_state.2.1 16 = .ok (.iload 4, 2) := by decide +kernel
theorem d_M_state_18 : decode md_M_state.2.1 18 = .ok (.iconst (-1), 1) := by decide +kernel
theorem d_M_state_19 : decode md_M_state.2.1 19 = .ok (.if_icmp .ne 7, 3) := by decide +kernel
theorem d_M_state_22 : decode md_M_state.2.1 22 = .ok (.iconst 1, 1) := by decide +kernel
theorem d_M_state_23 : decode md_M_state.2.1 23 = .ok (.goto 4, 3) := by decide +kernel
theorem d_M_state_26 : decode md_M_state.2.1 26 = .ok (.iconst 0, 1) := by decide +kernel
theorem d_M_state_27 : decode md_M_state.2.1 27 = .ok (.putfield 67, 3) := by decide +kernel
theorem d_M_state_30 : decode md_M_state.2.1 30 = .ok (.aload_n 0, 1) := by decide +kernel
theorem d_M_state_31 : decode md_M_state.2.1 31 = .ok (.getfield 67, 3) := by decide +kernel
theorem d_M_state_34 : decode md_M_state.2.1 34 = .ok (.ifCond .le 7, 3) := by decide +kernel
theorem d_M_state_37 : decode md_M_state.2.1 37 = .ok (.lconst 0, 1) := by decide +kernel
theorem d_M_state_38 : decode md_M_state.2.1 38 = .ok (.goto 13, 3) := by decide +kernel
theorem d_M_state_41 : decode md_M_state.2.1 41 = .ok (.aload_n 0, 1) := by decide +kernel
theorem d_M_state_42 : decode md_M_state.2.1 42 = .ok (.iload 4, 2) := by decide +kernel
theorem d_M_state_44 : decode md_M_state.2.1 44 = .ok (.iload_n 3, 1) := by decide +kernel
theorem d_M_state_45 : decode md_M_state.2.1 45 = .ok (.ldc2_w 177, 3) := by decide +kernel
theorem d_M_state_48 : decode md_M_state.2.1 48 = .ok (.invokevirtual 173, 3) := by decide +kernel
theorem d_M_state_51 : decode md_M_state.2.1 51 = .ok (.lreturn, 1) := by decide +kernel
theorem d_M_key_0 : decode md_M_key.2.1 0 = .ok (.aload_n 0, 1) := by decide +kernel
theorem d_M_key_1 : decode md_M_key.2.1 1 = .ok (.iload_n 3, 1) := by decide +kernel
theorem d_M_key_2 : decode md_M_key.2.1 2 = .ok (.ifCond .lt 8, 3) := by decide +kernel
theorem d_M_key_5 : decode md_M_key.2.1 5 = .ok (.iload_n 3, 1) := by decide +kernel
theorem d_M_key_6 : decode md_M_key.2.1 6 = .ok (.iconst 2, 1) := by decide +kernel
theorem d_M_key_7 : decode md_M_key.2.1 7 = .ok (.if_icmp .le 7, 3) := by decide +kernel
theorem d_M_key_10 : decode md_M_key.2.1 10 = .ok (.iconst 1, 1) := by decide +kernel
theorem d_M_key_11 : decode md_M_key.2.1 11 = .ok (.goto 4, 3) := by decide +kernel
theorem d_M_key_14 : decode md_M_key.2.1 14 = .ok (.iconst 0, 1) := by decide +kernel
theorem d_M_key_15 : decode md_M_key.2.1 15 = .ok (.putfield 67, 3) := by decide +kernel
theorem d_M_key_18 : decode md_M_key.2.1 18 = .ok (.aload_n 0, 1) := by decide +kernel
theorem d_M_key_19 : decode md_M_key.2.1 19 = .ok (.getfield 67, 3) := by decide +kernel
theorem d_M_key_22 : decode md_M_key.2.1 22 = .ok (.ifCond .le 5, 3) := by decide +kernel
theorem d_M_key_25 : decode md_M_key.2.1 25 = .ok (.iconst 0, 1) := by decide +kernel
theorem d_M_key_26 : decode md_M_key.2.1 26 = .ok (.ireturn, 1) := by decide +kernel
theorem d_M_key_27 : decode md_M_key.2.1 27 = .ok (.aload_n 0, 1) := by decide +kernel
theorem d_M_key_28 : decode md_M_key.2.1 28 = .ok (.lload_n 1, 1) := by decide +kernel
theorem d_M_key_29 : decode md_M_key.2.1 29 = .ok (.invokevirtual 125, 3) := by decide +kernel
theorem d_M_key_32 : decode md_M_key.2.1 32 = .ok (.istore 4, 2) := by decide +kernel
theorem d_M_key_34 : decode md_M_key.2.1 34 = .ok (.iload_n 3, 1) := by decide +kernel
theorem d_M_key_35 : decode md_M_key.2.1 35 = .ok (.iconst 2, 1) := by decide +kernel
theorem d_M_key_36 : decode md_M_key.2.1 36 = .ok (.if_icmp .ne 18, 3) := by decide +kernel
theorem d_M_key_39 : decode md_M_key.2.1 39 = .ok (.aload_n 0, 1) := by decide +kernel
theorem d_M_key_40 : decode md_M_key.2.1 40 = .ok (.lload_n 1, 1) := by decide +kernel
theorem d_M_key_41 : decode md_M_key.2.1 41 = .ok (.invokevirtual 106, 3) := by decide +kernel
theorem d_M_key_44 : decode md_M_key.2.1 44 = .ok (.iconst (-1), 1) := by decide +kernel
theorem d_M_key_45 : decode md_M_key.2.1 45 = .ok (.if_icmp .eq 7, 3) := by decide +kernel
theorem d_M_key_48 : decode md_M_key.2.1 48 = .ok (.iconst 1, 1) := by decide +kernel
theorem d_M_key_49 : decode md_M_key.2.1 49 = .ok (.goto 4, 3) := by decide +kernel
theorem d_M_key_52 : decode md_M_key.2.1 52 = .ok (.iconst 0, 1) := by decide +kernel
theorem d_M_key_53 : decode md_M_key.2.1 53 = .ok (.ireturn, 1) := by decide +kernel
theorem d_M_key_54 : decode md_M_key.2.1 54 = .ok (.iload 4, 2) := by decide +kernel
theorem d_M_key_56 : decode md_M_key.2.1 56 = .ok (.iconst (-1), 1) := by decide +kernel
theorem d_M_key_57 : decode md_M_key.2.1 57 = .ok (.if_icmp .ne 7, 3) := by decide +kernel
theorem d_M_key_60 : decode md_M_key.2.1 60 = .ok (.iconst 0, 1) := by decide +kernel
theorem d_M_key_61 : decode md_M_key.2.1 61 = .ok (.goto 24, 3) := by decide +kernel
theorem d_M_key_64 : decode md_M_key.2.1 64 = .ok (.iload_n 3, 1) := by decide +kernel
theorem d_M_key_65 : decode md_M_key.2.1 65 = .ok (.ifCond .ne 13, 3) := by decide +kernel
theorem d_M_key_68 : decode md_M_key.2.1 68 = .ok (.aload_n 0, 1) := by decide +kernel
theorem d_M_key_69 : decode md_M_key.2.1 69 = .ok (.getfield 29, 3) := by decide +kernel
theorem d_M_key_72 : decode md_M_key.2.1 72 = .ok (.iload 4, 2) := by decide +kernel
theorem d_M_key_74 : decode md_M_key.2.1 74 = .ok (.iaload, 1) := by decide +kernel
theorem d_M_key_75 : decode md_M_key.2.1 75 = .ok (.goto 10, 3) := by decide +kernel
theorem d_M_key_78 : decode md_M_key.2.1 78 = .ok (.aload_n 0, 1) := by decide +kernel
theorem d_M_key_79 : decode md_M_key.2.1 79 = .ok (.getfield 32, 3) := by decide +kernel
theorem d_M_key_82 : decode md_M_key.2.1 82 = .ok (.iload 4, 2) := by decide +kernel
theorem d_M_key_84 : decode md_M_key.2.1 84 = .ok (.iaload, 1) := by decide +kernel
theorem d_M_key_85 : decode md_M_key.2.1 85 = .ok (.ireturn, 1) := by decide +kernel
theorem d_M_rowOf_0 : decode md_M_rowOf.2.1 0 = .ok (.aload_n 0, 1) := by decide +kernel
theorem d_M_rowOf_1 : decode md_M_rowOf.2.1 1 = .ok (.lload_n 1, 1) := by decide +kernel
theorem d_M_rowOf_2 : decode md_M_rowOf.2.1 2 = .ok (.invokevirtual 125, 3) := by decide +kernel
theorem d_M_rowOf_5 : decode md_M_rowOf.2.1 5 = .ok (.istore 5, 2) := by decide +kernel
theorem d_M_rowOf_7 : decode md_M_rowOf.2.1 7 = .ok (.aload_n 0, 1) := by decide +kernel
theorem d_M_rowOf_8 : decode md_M_rowOf.2.1 8 = .ok (.iload 5, 2) := by decide +kernel
theorem d_M_rowOf_10 : decode md_M_rowOf.2.1 10 = .ok (.iconst (-1), 1) := by decide +kernel
theorem d_M_rowOf_11 : decode md_M_rowOf.2.1 11 = .ok (.if_icmp .eq 29, 3) := by decide +kernel
theorem d_M_rowOf_14 : decode md_M_rowOf.2.1 14 = .ok (.iload_n 3, 1) := by decide +kernel
theorem d_M_rowOf_15 : decode md_M_rowOf.2.1 15 = .ok (.ifCond .lt 25, 3) := by decide +kernel
theorem d_M_rowOf_18 : decode md_M_rowOf.2.1 18 = .ok (.iload_n 3, 1) := by decide +kernel
theorem d_M_rowOf_19 : decode md_M_rowOf.2.1 19 = .ok (.aload_n 0, 1) := by decide +kernel
theorem d_M_rowOf_20 : decode md_M_rowOf.2.1 20 = .ok (.getfield 29, 3) := by decide +kernel
theorem d_M_rowOf_23 : decode md_M_rowOf.2.1 23 = .ok (.iload 5, 2) := by decide +kernel
theorem d_M_rowOf_25 : decode md_M_rowOf.2.1 25 = .ok (.iaload, 1) := by decide +kernel
theorem d_M_rowOf_26 : decode md_M_rowOf.2.1 26 = .ok (.if_icmp .ge 14, 3) := by decide +kernel
theorem d_M_rowOf_29 : decode md_M_rowOf.2.1 29 = .ok (.iload 4, 2) := by decide +kernel
theorem d_M_rowOf_31 : decode md_M_rowOf.2.1 31 = .ok (.ifCond .lt 9, 3) := by decide +kernel
theorem d_M_rowOf_34 : decode md_M_rowOf.2.1 34 = .ok (.iload 4, 2) := by decide +kernel
theorem d_M_rowOf_36 : decode md_M_rowOf.2.1 36 = .ok (.iconst 1, 1) := by decide +kernel
theorem d_M_rowOf_37 : decode md_M_rowOf.2.1 37 = .ok (.if_icmp .le 7, 3) := by decide +kernel
theorem d_M_rowOf_40 : decode md_M_rowOf.2.1 40 = .ok (.iconst 1, 1) := by decide +kernel
theorem d_M_rowOf_41 : decode md_M_rowOf.2.1 41 = .ok (.goto 4, 3) := by decide +kernel
theorem d_M_rowOf_44 : decode md_M_rowOf.2.1 44 = .ok (.iconst 0, 1) := by decide +kernel
theorem d_M_rowOf_45 : decode md_M_rowOf.2.1 45 = .ok (.putfield 67, 3) := by decide +kernel
theorem d_M_rowOf_48 : decode md_M_rowOf.2.1 48 = .ok (.aload_n 0, 1) := by decide +kernel
theorem d_M_rowOf_49 : decode md_M_rowOf.2.1 49 = .ok (.getfield 67, 3) := by decide +kernel
theorem d_M_rowOf_52 : decode md_M_rowOf.2.1 52 = .ok (.ifCond .le 7, 3) := by decide +kernel
theorem d_M_rowOf_55 : decode md_M_rowOf.2.1 55 = .ok (.lconst 0, 1) := by decide +kernel
theorem d_M_rowOf_56 : decode md_M_rowOf.2.1 56 = .ok (.goto 35, 3) := by decide +kernel
theorem d_M_rowOf_59 : decode md_M_rowOf.2.1 59 = .ok (.iload 4, 2) := by decide +kernel
theorem d_M_rowOf_61 : decode md_M_rowOf.2.1 61 = .ok (.ifCond .ne 18, 3) := by decide +kernel
theorem d_M_rowOf_64 : decode md_M_rowOf.2.1 64 = .ok (.aload_n 0, 1) := by decide +kernel
theorem d_M_rowOf_65 : decode md_M_rowOf.2.1 65 = .ok (.getfield 35, 3) := by decide +kernel
theorem d_M_rowOf_68 : decode md_M_rowOf.2.1 68 = .ok (.bipush 62, 2) := by decide +kernel
theorem d_M_rowOf_70 : decode md_M_rowOf.2.1 70 = .ok (.iload 5, 2) := by decide +kernel
theorem d_M_rowOf_72 : decode md_M_rowOf.2.1 72 = .ok (.imul, 1) := by decide +kernel
theorem d_M_rowOf_73 : decode md_M_rowOf.2.1 73 = .ok (.iload_n 3, 1) := by decide +kernel
theorem d_M_rowOf_74 : decode md_M_rowOf.2.1 74 = .ok (.iadd, 1) := by decide +kernel
theorem d_M_rowOf_75 : decode md_M_rowOf.2.1 75 = .ok (.laload, 1) := by decide +kernel
theorem d_M_rowOf_76 : decode md_M_rowOf.2.1 76 = .ok (.goto 15, 3) := by decide +kernel
theorem d_M_rowOf_79 : decode md_M_rowOf.2.1 79 = .ok (.aload_n 0, 1) := by decide +kernel
theorem d_M_rowOf_80 : decode md_M_rowOf.2.1 80 = .ok (.getfield 38, 3) := by decide +kernel
theorem d_M_rowOf_83 : decode md_M_rowOf.2.1 83 = .ok (.bipush 62, 2) := by decide +kernel
theorem d_M_rowOf_85 : decode md_M_rowOf.2.1 85 = .ok (.iload 5, 2) := by decide +kernel
theorem d_M_rowOf_87 : decode md_M_rowOf.2.1 87 = .ok (.imul, 1) := by decide +kernel
theorem d_M_rowOf_88 : decode md_M_rowOf.2.1 88 = .ok (.iload_n 3, 1) := by decide +kernel
theorem d_M_rowOf_89 : decode md_M_rowOf.2.1 89 = .ok (.iadd, 1) := by decide +kernel
theorem d_M_rowOf_90 : decode md_M_rowOf.2.1 90 = .ok (.laload, 1) := by decide +kernel
theorem d_M_rowOf_91 : decode md_M_rowOf.2.1 91 = .ok (.lreturn, 1) := by decide +kernel
theorem d_M_aside_0 : decode md_M_aside.2.1 0 = .ok (.aload_n 0, 1) := by decide +kernel
theorem d_M_aside_1 : decode md_M_aside.2.1 1 = .ok (.iload_n 1, 1) := by decide +kernel
theorem d_M_aside_2 : decode md_M_aside.2.1 2 = .ok (.ifCond .lt 26, 3) := by decide +kernel
theorem d_M_aside_5 : decode md_M_aside.2.1 5 = .ok (.iload_n 1, 1) := by decide +kernel
theorem d_M_aside_6 : decode md_M_aside.2.1 6 = .ok (.aload_n 0, 1) := by decide +kernel
theorem d_M_aside_7 : decode md_M_aside.2.1 7 = .ok (.getfield 101, 3) := by decide +kernel
theorem d_M_aside_10 : decode md_M_aside.2.1 10 = .ok (.if_icmp .ge 18, 3) := by decide +kernel
theorem d_M_aside_13 : decode md_M_aside.2.1 13 = .ok (.iload_n 1, 1) := by decide +kernel
theorem d_M_aside_14 : decode md_M_aside.2.1 14 = .ok (.bipush 100, 2) := by decide +kernel
theorem d_M_aside_16 : decode md_M_aside.2.1 16 = .ok (.if_icmp .ge 12, 3) := by decide +kernel
theorem d_M_aside_19 : decode md_M_aside.2.1 19 = .ok (.iload_n 2, 1) := by decide +kernel
theorem d_M_aside_20 : decode md_M_aside.2.1 20 = .ok (.ifCond .lt 8, 3) := by decide +kernel
theorem d_M_aside_23 : decode md_M_aside.2.1 23 = .ok (.iload_n 2, 1) := by decide +kernel
theorem d_M_aside_24 : decode md_M_aside.2.1 24 = .ok (.iconst 3, 1) := by decide +kernel
theorem d_M_aside_25 : decode md_M_aside.2.1 25 = .ok (.if_icmp .le 7, 3) := by decide +kernel
theorem d_M_aside_28 : decode md_M_aside.2.1 28 = .ok (.iconst 1, 1) := by decide +kernel
theorem d_M_aside_29 : decode md_M_aside.2.1 29 = .ok (.goto 4, 3) := by decide +kernel
theorem d_M_aside_32 : decode md_M_aside.2.1 32 = .ok (.iconst 0, 1) := by decide +kernel
theorem d_M_aside_33 : decode md_M_aside.2.1 33 = .ok (.putfield 67, 3) := by decide +kernel
theorem d_M_aside_36 : decode md_M_aside.2.1 36 = .ok (.aload_n 0, 1) := by decide +kernel
theorem d_M_aside_37 : decode md_M_aside.2.1 37 = .ok (.getfield 67, 3) := by decide +kernel
theorem d_M_aside_40 : decode md_M_aside.2.1 40 = .ok (.ifCond .le 7, 3) := by decide +kernel
theorem d_M_aside_43 : decode md_M_aside.2.1 43 = .ok (.lconst 0, 1) := by decide +kernel
theorem d_M_aside_44 : decode md_M_aside.2.1 44 = .ok (.goto 13, 3) := by decide +kernel
theorem d_M_aside_47 : decode md_M_aside.2.1 47 = .ok (.aload_n 0, 1) := by decide +kernel
theorem d_M_aside_48 : decode md_M_aside.2.1 48 = .ok (.getfield 44, 3) := by decide +kernel
theorem d_M_aside_51 : decode md_M_aside.2.1 51 = .ok (.iconst 4, 1) := by decide +kernel
theorem d_M_aside_52 : decode md_M_aside.2.1 52 = .ok (.iload_n 1, 1) := by decide +kernel
theorem d_M_aside_53 : decode md_M_aside.2.1 53 = .ok (.imul, 1) := by decide +kernel
theorem d_M_aside_54 : decode md_M_aside.2.1 54 = .ok (.iload_n 2, 1) := by decide +kernel
theorem d_M_aside_55 : decode md_M_aside.2.1 55 = .ok (.iadd, 1) := by decide +kernel
theorem d_M_aside_56 : decode md_M_aside.2.1 56 = .ok (.laload, 1) := by decide +kernel
theorem d_M_aside_57 : decode md_M_aside.2.1 57 = .ok (.lreturn, 1) := by decide +kernel
theorem d_M_output_0 : decode md_M_output.2.1 0 = .ok (.aload_n 0, 1) := by decide +kernel
theorem d_M_output_1 : decode md_M_output.2.1 1 = .ok (.iload_n 1, 1) := by decide +kernel
theorem d_M_output_2 : decode md_M_output.2.1 2 = .ok (.ifCond .lt 32, 3) := by decide +kernel
theorem d_M_output_5 : decode md_M_output.2.1 5 = .ok (.iload_n 1, 1) := by decide +kernel
theorem d_M_output_6 : decode md_M_output.2.1 6 = .ok (.aload_n 0, 1) := by decide +kernel
theorem d_M_output_7 : decode md_M_output.2.1 7 = .ok (.getfield 170, 3) := by decide +kernel
theorem d_M_output_10 : decode md_M_output.2.1 10 = .ok (.if_icmp .ge 24, 3) := by decide +kernel
theorem d_M_output_13 : decode md_M_output.2.1 13 = .ok (.iload_n 1, 1) := by decide +kernel
theorem d_M_output_14 : decode md_M_output.2.1 14 = .ok (.sipush 300, 3) := by decide +kernel
theorem d_M_output_17 : decode md_M_output.2.1 17 = .ok (.if_icmp .ge 17, 3) := by decide +kernel
theorem d_M_output_20 : decode md_M_output.2.1 20 = .ok (.iload_n 2, 1) := by decide +kernel
theorem d_M_output_21 : decode md_M_output.2.1 21 = .ok (.ifCond .lt 13, 3) := by decide +kernel
theorem d_M_output_24 : decode md_M_output.2.1 24 = .ok (.iload_n 2, 1) := by decide +kernel
theorem d_M_output_25 : decode md_M_output.2.1 25 = .ok (.iconst 1, 1) := by decide +kernel
theorem d_M_output_26 : decode md_M_output.2.1 26 = .ok (.aload_n 0, 1) := by decide +kernel
theorem d_M_output_27 : decode md_M_output.2.1 27 = .ok (.getfield 71, 3) := by decide +kernel
theorem d_M_output_30 : decode md_M_output.2.1 30 = .ok (.iadd, 1) := by decide +kernel
theorem d_M_output_31 : decode md_M_output.2.1 31 = .ok (.if_icmp .le 7, 3) := by decide +kernel
theorem d_M_output_34 : decode md_M_output.2.1 34 = .ok (.iconst 1, 1) := by decide +kernel
theorem d_M_output_35 : decode md_M_output.2.1 35 = .ok (.goto 4, 3) := by decide +kernel
theorem d_M_output_38 : decode md_M_output.2.1 38 = .ok (.iconst 0, 1) := by decide +kernel
theorem d_M_output_39 : decode md_M_output.2.1 39 = .ok (.putfield 67, 3) := by decide +kernel
theorem d_M_output_42 : decode md_M_output.2.1 42 = .ok (.aload_n 0, 1) := by decide +kernel
theorem d_M_output_43 : decode md_M_output.2.1 43 = .ok (.getfield 67, 3) := by decide +kernel
theorem d_M_output_46 : decode md_M_output.2.1 46 = .ok (.ifCond .le 7, 3) := by decide +kernel
theorem d_M_output_49 : decode md_M_output.2.1 49 = .ok (.lconst 0, 1) := by decide +kernel
theorem d_M_output_50 : decode md_M_output.2.1 50 = .ok (.goto 14, 3) := by decide +kernel
theorem d_M_output_53 : decode md_M_output.2.1 53 = .ok (.aload_n 0, 1) := by decide +kernel
theorem d_M_output_54 : decode md_M_output.2.1 54 = .ok (.getfield 47, 3) := by decide +kernel
theorem d_M_output_57 : decode md_M_output.2.1 57 = .ok (.bipush 8, 2) := by decide +kernel
theorem d_M_output_59 : decode md_M_output.2.1 59 = .ok (.iload_n 1, 1) := by decide +kernel
theorem d_M_output_60 : decode md_M_output.2.1 60 = .ok (.imul, 1) := by decide +kernel
theorem d_M_output_61 : decode md_M_output.2.1 61 = .ok (.iload_n 2, 1) := by decide +kernel
theorem d_M_output_62 : decode md_M_output.2.1 62 = .ok (.iadd, 1) := by decide +kernel
theorem d_M_output_63 : decode md_M_output.2.1 63 = .ok (.laload, 1) := by decide +kernel
theorem d_M_output_64 : decode md_M_output.2.1 64 = .ok (.lreturn, 1) := by decide +kernel
theorem d_M_watermark_0 : decode md_M_watermark.2.1 0 = .ok (.aload_n 0, 1) := by decide +kernel
theorem d_M_watermark_1 : decode md_M_watermark.2.1 1 = .ok (.aload_n 0, 1) := by decide +kernel
theorem d_M_watermark_2 : decode md_M_watermark.2.1 2 = .ok (.getfield 110, 3) := by decide +kernel
theorem d_M_watermark_5 : decode md_M_watermark.2.1 5 = .ok (.ifCond .eq 7, 3) := by decide +kernel
theorem d_M_watermark_8 : decode md_M_watermark.2.1 8 = .ok (.iconst 0, 1) := by decide +kernel
theorem d_M_watermark_9 : decode md_M_watermark.2.1 9 = .ok (.goto 4, 3) := by decide +kernel
theorem d_M_watermark_12 : decode md_M_watermark.2.1 12 = .ok (.iconst 1, 1) := by decide +kernel
theorem d_M_watermark_13 : decode md_M_watermark.2.1 13 = .ok (.putfield 67, 3) := by decide +kernel
theorem d_M_watermark_16 : decode md_M_watermark.2.1 16 = .ok (.aload_n 0, 1) := by decide +kernel
theorem d_M_watermark_17 : decode md_M_watermark.2.1 17 = .ok (.getfield 67, 3) := by decide +kernel
theorem d_M_watermark_20 : decode md_M_watermark.2.1 20 = .ok (.ifCond .le 7, 3) := by decide +kernel
theorem d_M_watermark_23 : decode md_M_watermark.2.1 23 = .ok (.lconst 0, 1) := by decide +kernel
theorem d_M_watermark_24 : decode md_M_watermark.2.1 24 = .ok (.goto 7, 3) := by decide +kernel
theorem d_M_watermark_27 : decode md_M_watermark.2.1 27 = .ok (.aload_n 0, 1) := by decide +kernel
theorem d_M_watermark_28 : decode md_M_watermark.2.1 28 = .ok (.getfield 114, 3) := by decide +kernel
theorem d_M_watermark_31 : decode md_M_watermark.2.1 31 = .ok (.lreturn, 1) := by decide +kernel
theorem d_M_told_0 : decode md_M_told.2.1 0 = .ok (.aload_n 0, 1) := by decide +kernel
theorem d_M_told_1 : decode md_M_told.2.1 1 = .ok (.iload_n 1, 1) := by decide +kernel
theorem d_M_told_2 : decode md_M_told.2.1 2 = .ok (.ifCond .lt 9, 3) := by decide +kernel
theorem d_M_told_5 : decode md_M_told.2.1 5 = .ok (.iload_n 1, 1) := by decide +kernel
theorem d_M_told_6 : decode md_M_told.2.1 6 = .ok (.bipush 8, 2) := by decide +kernel
theorem d_M_told_8 : decode md_M_told.2.1 8 = .ok (.if_icmp .le 7, 3) := by decide +kernel
theorem d_M_told_11 : decode md_M_told.2.1 11 = .ok (.iconst 1, 1) := by decide +kernel
theorem d_M_told_12 : decode md_M_told.2.1 12 = .ok (.goto 4, 3) := by decide +kernel
theorem d_M_told_15 : decode md_M_told.2.1 15 = .ok (.iconst 0, 1) := by decide +kernel
theorem d_M_told_16 : decode md_M_told.2.1 16 = .ok (.putfield 67, 3) := by decide +kernel
theorem d_M_told_19 : decode md_M_told.2.1 19 = .ok (.aload_n 0, 1) := by decide +kernel
theorem d_M_told_20 : decode md_M_told.2.1 20 = .ok (.getfield 67, 3) := by decide +kernel
theorem d_M_told_23 : decode md_M_told.2.1 23 = .ok (.ifCond .le 5, 3) := by decide +kernel
theorem d_M_told_26 : decode md_M_told.2.1 26 = .ok (.iconst 0, 1) := by decide +kernel
theorem d_M_told_27 : decode md_M_told.2.1 27 = .ok (.ireturn, 1) := by decide +kernel
theorem d_M_told_28 : decode md_M_told.2.1 28 = .ok (.iload_n 1, 1) := by decide +kernel
theorem d_M_told_29 : decode md_M_told.2.1 29 = .ok (.tableswitch 87 0 7 #[47, 52, 57, 62, 67, 72, 77, 82], 47) := by decide +kernel
theorem d_M_told_76 : decode md_M_told.2.1 76 = .ok (.aload_n 0, 1) := by decide +kernel
theorem d_M_told_77 : decode md_M_told.2.1 77 = .ok (.getfield 71, 3) := by decide +kernel
theorem d_M_told_80 : decode md_M_told.2.1 80 = .ok (.ireturn, 1) := by decide +kernel
theorem d_M_told_81 : decode md_M_told.2.1 81 = .ok (.aload_n 0, 1) := by decide +kernel
theorem d_M_told_82 : decode md_M_told.2.1 82 = .ok (.getfield 74, 3) := by decide +kernel
theorem d_M_told_85 : decode md_M_told.2.1 85 = .ok (.ireturn, 1) := by decide +kernel
theorem d_M_told_86 : decode md_M_told.2.1 86 = .ok (.aload_n 0, 1) := by decide +kernel
theorem d_M_told_87 : decode md_M_told.2.1 87 = .ok (.getfield 101, 3) := by decide +kernel
theorem d_M_told_90 : decode md_M_told.2.1 90 = .ok (.ireturn, 1) := by decide +kernel
theorem d_M_told_91 : decode md_M_told.2.1 91 = .ok (.aload_n 0, 1) := by decide +kernel
theorem d_M_told_92 : decode md_M_told.2.1 92 = .ok (.getfield 170, 3) := by decide +kernel
theorem d_M_told_95 : decode md_M_told.2.1 95 = .ok (.ireturn, 1) := by decide +kernel
theorem d_M_told_96 : decode md_M_told.2.1 96 = .ok (.aload_n 0, 1) := by decide +kernel
theorem d_M_told_97 : decode md_M_told.2.1 97 = .ok (.getfield 80, 3) := by decide +kernel
theorem d_M_told_100 : decode md_M_told.2.1 100 = .ok (.ireturn, 1) := by decide +kernel
theorem d_M_told_101 : decode md_M_told.2.1 101 = .ok (.aload_n 0, 1) := by decide +kernel
theorem d_M_told_102 : decode md_M_told.2.1 102 = .ok (.getfield 118, 3) := by decide +kernel
theorem d_M_told_105 : decode md_M_told.2.1 105 = .ok (.ireturn, 1) := by decide +kernel
theorem d_M_told_106 : decode md_M_told.2.1 106 = .ok (.aload_n 0, 1) := by decide +kernel
theorem d_M_told_107 : decode md_M_told.2.1 107 = .ok (.getfield 132, 3) := by decide +kernel
theorem d_M_told_110 : decode md_M_told.2.1 110 = .ok (.ireturn, 1) := by decide +kernel
theorem d_M_told_111 : decode md_M_told.2.1 111 = .ok (.aload_n 0, 1) := by decide +kernel
theorem d_M_told_112 : decode md_M_told.2.1 112 = .ok (.getfield 138, 3) := by decide +kernel
theorem d_M_told_115 : decode md_M_told.2.1 115 = .ok (.ireturn, 1) := by decide +kernel
theorem d_M_told_116 : decode md_M_told.2.1 116 = .ok (.aload_n 0, 1) := by decide +kernel
theorem d_M_told_117 : decode md_M_told.2.1 117 = .ok (.getfield 155, 3) := by decide +kernel
theorem d_M_told_120 : decode md_M_told.2.1 120 = .ok (.ireturn, 1) := by decide +kernel
theorem d_M_folded_0 : decode md_M_folded.2.1 0 = .ok (.aload_n 0, 1) := by decide +kernel
theorem d_M_folded_1 : decode md_M_folded.2.1 1 = .ok (.aload_n 0, 1) := by decide +kernel
theorem d_M_folded_2 : decode md_M_folded.2.1 2 = .ok (.lload_n 1, 1) := by decide +kernel
theorem d_M_folded_3 : decode md_M_folded.2.1 3 = .ok (.invokevirtual 125, 3) := by decide +kernel
theorem d_M_folded_6 : decode md_M_folded.2.1 6 = .ok (.iconst (-1), 1) := by decide +kernel
theorem d_M_folded_7 : decode md_M_folded.2.1 7 = .ok (.if_icmp .ne 7, 3) := by decide +kernel
theorem d_M_folded_10 : decode md_M_folded.2.1 10 = .ok (.iconst 1, 1) := by decide +kernel
theorem d_M_folded_11 : decode md_M_folded.2.1 11 = .ok (.goto 4, 3) := by decide +kernel
theorem d_M_folded_14 : decode md_M_folded.2.1 14 = .ok (.iconst 0, 1) := by decide +kernel
theorem d_M_folded_15 : decode md_M_folded.2.1 15 = .ok (.putfield 67, 3) := by decide +kernel
theorem d_M_folded_18 : decode md_M_folded.2.1 18 = .ok (.aload_n 0, 1) := by decide +kernel
theorem d_M_folded_19 : decode md_M_folded.2.1 19 = .ok (.getfield 67, 3) := by decide +kernel
theorem d_M_folded_22 : decode md_M_folded.2.1 22 = .ok (.ifCond .ne 7, 3) := by decide +kernel
theorem d_M_folded_25 : decode md_M_folded.2.1 25 = .ok (.iconst 1, 1) := by decide +kernel
theorem d_M_folded_26 : decode md_M_folded.2.1 26 = .ok (.goto 4, 3) := by decide +kernel
theorem d_M_folded_29 : decode md_M_folded.2.1 29 = .ok (.iconst 0, 1) := by decide +kernel
theorem d_M_folded_30 : decode md_M_folded.2.1 30 = .ok (.ireturn, 1) := by decide +kernel
theorem d_M_joined_0 : decode md_M_joined.2.1 0 = .ok (.aload_n 0, 1) := by decide +kernel
theorem d_M_joined_1 : decode md_M_joined.2.1 1 = .ok (.aload_n 0, 1) := by decide +kernel
theorem d_M_joined_2 : decode md_M_joined.2.1 2 = .ok (.iload_n 1, 1) := by decide +kernel
theorem d_M_joined_3 : decode md_M_joined.2.1 3 = .ok (.invokevirtual 83, 3) := by decide +kernel
theorem d_M_joined_6 : decode md_M_joined.2.1 6 = .ok (.ifCond .eq 7, 3) := by decide +kernel
theorem d_M_joined_9 : decode md_M_joined.2.1 9 = .ok (.iconst 0, 1) := by decide +kernel
theorem d_M_joined_10 : decode md_M_joined.2.1 10 = .ok (.goto 4, 3) := by decide +kernel
theorem d_M_joined_13 : decode md_M_joined.2.1 13 = .ok (.iconst 1, 1) := by decide +kernel
theorem d_M_joined_14 : decode md_M_joined.2.1 14 = .ok (.putfield 67, 3) := by decide +kernel
theorem d_M_joined_17 : decode md_M_joined.2.1 17 = .ok (.aload_n 0, 1) := by decide +kernel
theorem d_M_joined_18 : decode md_M_joined.2.1 18 = .ok (.getfield 67, 3) := by decide +kernel
theorem d_M_joined_21 : decode md_M_joined.2.1 21 = .ok (.ifCond .le 5, 3) := by decide +kernel
theorem d_M_joined_24 : decode md_M_joined.2.1 24 = .ok (.iconst 0, 1) := by decide +kernel
theorem d_M_joined_25 : decode md_M_joined.2.1 25 = .ok (.ireturn, 1) := by decide +kernel
theorem d_M_joined_26 : decode md_M_joined.2.1 26 = .ok (.iconst 1, 1) := by decide +kernel
theorem d_M_joined_27 : decode md_M_joined.2.1 27 = .ok (.istore_n 2, 1) := by decide +kernel
theorem d_M_joined_28 : decode md_M_joined.2.1 28 = .ok (.iconst 0, 1) := by decide +kernel
theorem d_M_joined_29 : decode md_M_joined.2.1 29 = .ok (.istore_n 3, 1) := by decide +kernel
theorem d_M_joined_30 : decode md_M_joined.2.1 30 = .ok (.iload_n 3, 1) := by decide +kernel
theorem d_M_joined_31 : decode md_M_joined.2.1 31 = .ok (.aload_n 0, 1) := by decide +kernel
theorem d_M_joined_32 : decode md_M_joined.2.1 32 = .ok (.getfield 74, 3) := by decide +kernel
theorem d_M_joined_35 : decode md_M_joined.2.1 35 = .ok (.if_icmp .ge 98, 3) := by decide +kernel
theorem d_M_joined_38 : decode md_M_joined.2.1 38 = .ok (.aload_n 0, 1) := by decide +kernel
theorem d_M_joined_39 : decode md_M_joined.2.1 39 = .ok (.aload_n 0, 1) := by decide +kernel
theorem d_M_joined_40 : decode md_M_joined.2.1 40 = .ok (.getfield 7, 3) := by decide +kernel
theorem d_M_joined_43 : decode md_M_joined.2.1 43 = .ok (.iload_n 1, 1) := by decide +kernel
theorem d_M_joined_44 : decode md_M_joined.2.1 44 = .ok (.iaload, 1) := by decide +kernel
theorem d_M_joined_45 : decode md_M_joined.2.1 45 = .ok (.invokevirtual 145, 3) := by decide +kernel
theorem d_M_joined_48 : decode md_M_joined.2.1 48 = .ok (.ifCond .eq 85, 3) := by decide +kernel
theorem d_M_joined_51 : decode md_M_joined.2.1 51 = .ok (.aload_n 0, 1) := by decide +kernel
theorem d_M_joined_52 : decode md_M_joined.2.1 52 = .ok (.getfield 13, 3) := by decide +kernel
theorem d_M_joined_55 : decode md_M_joined.2.1 55 = .ok (.iload_n 1, 1) := by decide +kernel
theorem d_M_joined_56 : decode md_M_joined.2.1 56 = .ok (.laload, 1) := by decide +kernel
theorem d_M_joined_57 : decode md_M_joined.2.1 57 = .ok (.lstore 4, 2) := by decide +kernel
theorem d_M_joined_59 : decode md_M_joined.2.1 59 = .ok (.aload_n 0, 1) := by decide +kernel
theorem d_M_joined_60 : decode md_M_joined.2.1 60 = .ok (.getfield 29, 3) := by decide +kernel
theorem d_M_joined_63 : decode md_M_joined.2.1 63 = .ok (.iload_n 3, 1) := by decide +kernel
theorem d_M_joined_64 : decode md_M_joined.2.1 64 = .ok (.iaload, 1) := by decide +kernel
theorem d_M_joined_65 : decode md_M_joined.2.1 65 = .ok (.iconst 1, 1) := by decide +kernel
theorem d_M_joined_66 : decode md_M_joined.2.1 66 = .ok (.isub, 1) := by decide +kernel
theorem d_M_joined_67 : decode md_M_joined.2.1 67 = .ok (.istore 6, 2) := by decide +kernel
theorem d_M_joined_69 : decode md_M_joined.2.1 69 = .ok (.iload 6, 2) := by decide +kernel
theorem d_M_joined_71 : decode md_M_joined.2.1 71 = .ok (.ifCond .lt 33, 3) := by decide +kernel
theorem d_M_joined_74 : decode md_M_joined.2.1 74 = .ok (.aload_n 0, 1) := by decide +kernel
theorem d_M_joined_75 : decode md_M_joined.2.1 75 = .ok (.iload_n 1, 1) := by decide +kernel
theorem d_M_joined_76 : decode md_M_joined.2.1 76 = .ok (.lload 4, 2) := by decide +kernel
theorem d_M_joined_78 : decode md_M_joined.2.1 78 = .ok (.lconst 0, 1) := by decide +kernel
theorem d_M_joined_79 : decode md_M_joined.2.1 79 = .ok (.aload_n 0, 1) := by decide +kernel
