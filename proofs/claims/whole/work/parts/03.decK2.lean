theorem d_R_insert_34 : decode md_R_insert.2.1 34 = .ok (.aload_n 0, 1) := by decide +kernel
theorem d_R_insert_35 : decode md_R_insert.2.1 35 = .ok (.getfield 15, 3) := by decide +kernel
theorem d_R_insert_38 : decode md_R_insert.2.1 38 = .ok (.iload 6, 2) := by decide +kernel
theorem d_R_insert_40 : decode md_R_insert.2.1 40 = .ok (.iconst 1, 1) := by decide +kernel
theorem d_R_insert_41 : decode md_R_insert.2.1 41 = .ok (.isub, 1) := by decide +kernel
theorem d_R_insert_42 : decode md_R_insert.2.1 42 = .ok (.laload, 1) := by decide +kernel
theorem d_R_insert_43 : decode md_R_insert.2.1 43 = .ok (.lastore, 1) := by decide +kernel
theorem d_R_insert_44 : decode md_R_insert.2.1 44 = .ok (.iinc 6 (-1), 3) := by decide +kernel
theorem d_R_insert_47 : decode md_R_insert.2.1 47 = .ok (.goto (-41), 3) := by decide +kernel
theorem d_R_insert_50 : decode md_R_insert.2.1 50 = .ok (.aload_n 0, 1) := by decide +kernel
theorem d_R_insert_51 : decode md_R_insert.2.1 51 = .ok (.getfield 9, 3) := by decide +kernel
theorem d_R_insert_54 : decode md_R_insert.2.1 54 = .ok (.iload_n 1, 1) := by decide +kernel
theorem d_R_insert_55 : decode md_R_insert.2.1 55 = .ok (.lload_n 2, 1) := by decide +kernel
theorem d_R_insert_56 : decode md_R_insert.2.1 56 = .ok (.lastore, 1) := by decide +kernel
theorem d_R_insert_57 : decode md_R_insert.2.1 57 = .ok (.aload_n 0, 1) := by decide +kernel
theorem d_R_insert_58 : decode md_R_insert.2.1 58 = .ok (.getfield 15, 3) := by decide +kernel
theorem d_R_insert_61 : decode md_R_insert.2.1 61 = .ok (.iload_n 1, 1) := by decide +kernel
theorem d_R_insert_62 : decode md_R_insert.2.1 62 = .ok (.lload 4, 2) := by decide +kernel
theorem d_R_insert_64 : decode md_R_insert.2.1 64 = .ok (.lastore, 1) := by decide +kernel
theorem d_R_insert_65 : decode md_R_insert.2.1 65 = .ok (.aload_n 0, 1) := by decide +kernel
theorem d_R_insert_66 : decode md_R_insert.2.1 66 = .ok (.dup, 1) := by decide +kernel
theorem d_R_insert_67 : decode md_R_insert.2.1 67 = .ok (.getfield 18, 3) := by decide +kernel
theorem d_R_insert_70 : decode md_R_insert.2.1 70 = .ok (.iconst 1, 1) := by decide +kernel
theorem d_R_insert_71 : decode md_R_insert.2.1 71 = .ok (.iadd, 1) := by decide +kernel
theorem d_R_insert_72 : decode md_R_insert.2.1 72 = .ok (.putfield 18, 3) := by decide +kernel
theorem d_R_insert_75 : decode md_R_insert.2.1 75 = .ok (.return_, 1) := by decide +kernel
theorem d_F_mayBeJoined_0 : decode md_F_mayBeJoined.2.1 0 = .ok (.aload_n 0, 1) := by decide +kernel
theorem d_F_mayBeJoined_1 : decode md_F_mayBeJoined.2.1 1 = .ok (.getfield 19, 3) := by decide +kernel
theorem d_F_mayBeJoined_4 : decode md_F_mayBeJoined.2.1 4 = .ok (.iconst 1, 1) := by decide +kernel
theorem d_F_mayBeJoined_5 : decode md_F_mayBeJoined.2.1 5 = .ok (.if_icmp .eq 18, 3) := by decide +kernel
theorem d_F_mayBeJoined_8 : decode md_F_mayBeJoined.2.1 8 = .ok (.aload_n 0, 1) := by decide +kernel
theorem d_F_mayBeJoined_9 : decode md_F_mayBeJoined.2.1 9 = .ok (.getfield 19, 3) := by decide +kernel
theorem d_F_mayBeJoined_12 : decode md_F_mayBeJoined.2.1 12 = .ok (.iconst 2, 1) := by decide +kernel
theorem d_F_mayBeJoined_13 : decode md_F_mayBeJoined.2.1 13 = .ok (.if_icmp .eq 10, 3) := by decide +kernel
theorem d_F_mayBeJoined_16 : decode md_F_mayBeJoined.2.1 16 = .ok (.aload_n 0, 1) := by decide +kernel
theorem d_F_mayBeJoined_17 : decode md_F_mayBeJoined.2.1 17 = .ok (.invokevirtual 29, 3) := by decide +kernel
theorem d_F_mayBeJoined_20 : decode md_F_mayBeJoined.2.1 20 = .ok (.ifCond .eq 7, 3) := by decide +kernel
theorem d_F_mayBeJoined_23 : decode md_F_mayBeJoined.2.1 23 = .ok (.iconst 1, 1) := by decide +kernel
theorem d_F_mayBeJoined_24 : decode md_F_mayBeJoined.2.1 24 = .ok (.goto 4, 3) := by decide +kernel
theorem d_F_mayBeJoined_27 : decode md_F_mayBeJoined.2.1 27 = .ok (.iconst 0, 1) := by decide +kernel
theorem d_F_mayBeJoined_28 : decode md_F_mayBeJoined.2.1 28 = .ok (.ireturn, 1) := by decide +kernel
theorem d_F_canBeTakenBack_0 : decode md_F_canBeTakenBack.2.1 0 = .ok (.aload_n 0, 1) := by decide +kernel
theorem d_F_canBeTakenBack_1 : decode md_F_canBeTakenBack.2.1 1 = .ok (.getfield 19, 3) := by decide +kernel
theorem d_F_canBeTakenBack_4 : decode md_F_canBeTakenBack.2.1 4 = .ok (.ifCond .eq 21, 3) := by decide +kernel
theorem d_F_canBeTakenBack_7 : decode md_F_canBeTakenBack.2.1 7 = .ok (.aload_n 0, 1) := by decide +kernel
theorem d_F_canBeTakenBack_8 : decode md_F_canBeTakenBack.2.1 8 = .ok (.getfield 19, 3) := by decide +kernel
theorem d_F_canBeTakenBack_11 : decode md_F_canBeTakenBack.2.1 11 = .ok (.bipush 6, 2) := by decide +kernel
theorem d_F_canBeTakenBack_13 : decode md_F_canBeTakenBack.2.1 13 = .ok (.if_icmp .eq 12, 3) := by decide +kernel
theorem d_F_canBeTakenBack_16 : decode md_F_canBeTakenBack.2.1 16 = .ok (.aload_n 0, 1) := by decide +kernel
theorem d_F_canBeTakenBack_17 : decode md_F_canBeTakenBack.2.1 17 = .ok (.getfield 19, 3) := by decide +kernel
theorem d_F_canBeTakenBack_20 : decode md_F_canBeTakenBack.2.1 20 = .ok (.bipush 7, 2) := by decide +kernel
theorem d_F_canBeTakenBack_22 : decode md_F_canBeTakenBack.2.1 22 = .ok (.if_icmp .ne 7, 3) := by decide +kernel
theorem d_F_canBeTakenBack_25 : decode md_F_canBeTakenBack.2.1 25 = .ok (.iconst 1, 1) := by decide +kernel
theorem d_F_canBeTakenBack_26 : decode md_F_canBeTakenBack.2.1 26 = .ok (.goto 4, 3) := by decide +kernel
theorem d_F_canBeTakenBack_29 : decode md_F_canBeTakenBack.2.1 29 = .ok (.iconst 0, 1) := by decide +kernel
theorem d_F_canBeTakenBack_30 : decode md_F_canBeTakenBack.2.1 30 = .ok (.ireturn, 1) := by decide +kernel
theorem d_R_stepAt_0 : decode md_R_stepAt.2.1 0 = .ok (.iload_n 1, 1) := by decide +kernel
theorem d_R_stepAt_1 : decode md_R_stepAt.2.1 1 = .ok (.ifCond .ne 7, 3) := by decide +kernel
theorem d_R_stepAt_4 : decode md_R_stepAt.2.1 4 = .ok (.lconst 0, 1) := by decide +kernel
theorem d_R_stepAt_5 : decode md_R_stepAt.2.1 5 = .ok (.goto 18, 3) := by decide +kernel
theorem d_R_stepAt_8 : decode md_R_stepAt.2.1 8 = .ok (.aload_n 0, 1) := by decide +kernel
theorem d_R_stepAt_9 : decode md_R_stepAt.2.1 9 = .ok (.getfield 9, 3) := by decide +kernel
theorem d_R_stepAt_12 : decode md_R_stepAt.2.1 12 = .ok (.iload_n 1, 1) := by decide +kernel
theorem d_R_stepAt_13 : decode md_R_stepAt.2.1 13 = .ok (.laload, 1) := by decide +kernel
theorem d_R_stepAt_14 : decode md_R_stepAt.2.1 14 = .ok (.aload_n 0, 1) := by decide +kernel
theorem d_R_stepAt_15 : decode md_R_stepAt.2.1 15 = .ok (.getfield 9, 3) := by decide +kernel
theorem d_R_stepAt_18 : decode md_R_stepAt.2.1 18 = .ok (.iload_n 1, 1) := by decide +kernel
theorem d_R_stepAt_19 : decode md_R_stepAt.2.1 19 = .ok (.iconst 1, 1) := by decide +kernel
theorem d_R_stepAt_20 : decode md_R_stepAt.2.1 20 = .ok (.isub, 1) := by decide +kernel
theorem d_R_stepAt_21 : decode md_R_stepAt.2.1 21 = .ok (.laload, 1) := by decide +kernel
theorem d_R_stepAt_22 : decode md_R_stepAt.2.1 22 = .ok (.lsub, 1) := by decide +kernel
theorem d_R_stepAt_23 : decode md_R_stepAt.2.1 23 = .ok (.lstore 5, 2) := by decide +kernel
theorem d_R_stepAt_25 : decode md_R_stepAt.2.1 25 = .ok (.aload_n 2, 1) := by decide +kernel
theorem d_R_stepAt_26 : decode md_R_stepAt.2.1 26 = .ok (.lload_n 3, 1) := by decide +kernel
theorem d_R_stepAt_27 : decode md_R_stepAt.2.1 27 = .ok (.aload_n 0, 1) := by decide +kernel
theorem d_R_stepAt_28 : decode md_R_stepAt.2.1 28 = .ok (.getfield 15, 3) := by decide +kernel
theorem d_R_stepAt_31 : decode md_R_stepAt.2.1 31 = .ok (.iload_n 1, 1) := by decide +kernel
theorem d_R_stepAt_32 : decode md_R_stepAt.2.1 32 = .ok (.laload, 1) := by decide +kernel
theorem d_R_stepAt_33 : decode md_R_stepAt.2.1 33 = .ok (.lload 5, 2) := by decide +kernel
theorem d_R_stepAt_35 : decode md_R_stepAt.2.1 35 = .ok (.iload_n 1, 1) := by decide +kernel
theorem d_R_stepAt_36 : decode md_R_stepAt.2.1 36 = .ok (.ifCond .ne 7, 3) := by decide +kernel
theorem d_R_stepAt_39 : decode md_R_stepAt.2.1 39 = .ok (.iconst 1, 1) := by decide +kernel
theorem d_R_stepAt_40 : decode md_R_stepAt.2.1 40 = .ok (.goto 4, 3) := by decide +kernel
theorem d_R_stepAt_43 : decode md_R_stepAt.2.1 43 = .ok (.iconst 0, 1) := by decide +kernel
theorem d_R_stepAt_44 : decode md_R_stepAt.2.1 44 = .ok (.invokevirtual 87, 3) := by decide +kernel
theorem d_R_stepAt_47 : decode md_R_stepAt.2.1 47 = .ok (.lreturn, 1) := by decide +kernel
theorem d_F_step_0 : decode md_F_step.2.1 0 = .ok (.aload_n 0, 1) := by decide +kernel
theorem d_F_step_1 : decode md_F_step.2.1 1 = .ok (.getfield 19, 3) := by decide +kernel
theorem d_F_step_4 : decode md_F_step.2.1 4 = .ok (.tableswitch 111 0 7 #[48, 52, 64, 76, 78, 89, 98, 102], 48) := by decide +kernel
theorem d_F_step_52 : decode md_F_step.2.1 52 = .ok (.lload_n 1, 1) := by decide +kernel
theorem d_F_step_53 : decode md_F_step.2.1 53 = .ok (.lload_n 3, 1) := by decide +kernel
theorem d_F_step_54 : decode md_F_step.2.1 54 = .ok (.ladd, 1) := by decide +kernel
theorem d_F_step_55 : decode md_F_step.2.1 55 = .ok (.lreturn, 1) := by decide +kernel
theorem d_F_step_56 : decode md_F_step.2.1 56 = .ok (.lload_n 1, 1) := by decide +kernel
theorem d_F_step_57 : decode md_F_step.2.1 57 = .ok (.lload_n 3, 1) := by decide +kernel
theorem d_F_step_58 : decode md_F_step.2.1 58 = .ok (.lcmp, 1) := by decide +kernel
theorem d_F_step_59 : decode md_F_step.2.1 59 = .ok (.ifCond .lt 7, 3) := by decide +kernel
theorem d_F_step_62 : decode md_F_step.2.1 62 = .ok (.lload_n 1, 1) := by decide +kernel
theorem d_F_step_63 : decode md_F_step.2.1 63 = .ok (.goto 4, 3) := by decide +kernel
theorem d_F_step_66 : decode md_F_step.2.1 66 = .ok (.lload_n 3, 1) := by decide +kernel
theorem d_F_step_67 : decode md_F_step.2.1 67 = .ok (.lreturn, 1) := by decide +kernel
theorem d_F_step_68 : decode md_F_step.2.1 68 = .ok (.lload_n 1, 1) := by decide +kernel
theorem d_F_step_69 : decode md_F_step.2.1 69 = .ok (.lload_n 3, 1) := by decide +kernel
theorem d_F_step_70 : decode md_F_step.2.1 70 = .ok (.lcmp, 1) := by decide +kernel
theorem d_F_step_71 : decode md_F_step.2.1 71 = .ok (.ifCond .gt 7, 3) := by decide +kernel
theorem d_F_step_74 : decode md_F_step.2.1 74 = .ok (.lload_n 1, 1) := by decide +kernel
theorem d_F_step_75 : decode md_F_step.2.1 75 = .ok (.goto 4, 3) := by decide +kernel
theorem d_F_step_78 : decode md_F_step.2.1 78 = .ok (.lload_n 3, 1) := by decide +kernel
theorem d_F_step_79 : decode md_F_step.2.1 79 = .ok (.lreturn, 1) := by decide +kernel
theorem d_F_step_80 : decode md_F_step.2.1 80 = .ok (.lload_n 3, 1) := by decide +kernel
theorem d_F_step_81 : decode md_F_step.2.1 81 = .ok (.lreturn, 1) := by decide +kernel
theorem d_F_step_82 : decode md_F_step.2.1 82 = .ok (.iload 7, 2) := by decide +kernel
theorem d_F_step_84 : decode md_F_step.2.1 84 = .ok (.ifCond .eq 7, 3) := by decide +kernel
theorem d_F_step_87 : decode md_F_step.2.1 87 = .ok (.lload_n 3, 1) := by decide +kernel
theorem d_F_step_88 : decode md_F_step.2.1 88 = .ok (.goto 4, 3) := by decide +kernel
theorem d_F_step_91 : decode md_F_step.2.1 91 = .ok (.lload_n 1, 1) := by decide +kernel
theorem d_F_step_92 : decode md_F_step.2.1 92 = .ok (.lreturn, 1) := by decide +kernel
theorem d_F_step_93 : decode md_F_step.2.1 93 = .ok (.lload_n 1, 1) := by decide +kernel
theorem d_F_step_94 : decode md_F_step.2.1 94 = .ok (.aload_n 0, 1) := by decide +kernel
theorem d_F_step_95 : decode md_F_step.2.1 95 = .ok (.getfield 26, 3) := by decide +kernel
theorem d_F_step_98 : decode md_F_step.2.1 98 = .ok (.lmul, 1) := by decide +kernel
theorem d_F_step_99 : decode md_F_step.2.1 99 = .ok (.lload_n 3, 1) := by decide +kernel
theorem d_F_step_100 : decode md_F_step.2.1 100 = .ok (.ladd, 1) := by decide +kernel
theorem d_F_step_101 : decode md_F_step.2.1 101 = .ok (.lreturn, 1) := by decide +kernel
theorem d_F_step_102 : decode md_F_step.2.1 102 = .ok (.lload_n 1, 1) := by decide +kernel
theorem d_F_step_103 : decode md_F_step.2.1 103 = .ok (.lconst 1, 1) := by decide +kernel
theorem d_F_step_104 : decode md_F_step.2.1 104 = .ok (.ladd, 1) := by decide +kernel
theorem d_F_step_105 : decode md_F_step.2.1 105 = .ok (.lreturn, 1) := by decide +kernel
theorem d_F_step_106 : decode md_F_step.2.1 106 = .ok (.lload_n 1, 1) := by decide +kernel
theorem d_F_step_107 : decode md_F_step.2.1 107 = .ok (.lload_n 3, 1) := by decide +kernel
theorem d_F_step_108 : decode md_F_step.2.1 108 = .ok (.aload_n 0, 1) := by decide +kernel
theorem d_F_step_109 : decode md_F_step.2.1 109 = .ok (.getfield 26, 3) := by decide +kernel
theorem d_F_step_112 : decode md_F_step.2.1 112 = .ok (.lmul, 1) := by decide +kernel
theorem d_F_step_113 : decode md_F_step.2.1 113 = .ok (.lxor, 1) := by decide +kernel
theorem d_F_step_114 : decode md_F_step.2.1 114 = .ok (.lreturn, 1) := by decide +kernel
theorem d_F_step_115 : decode md_F_step.2.1 115 = .ok (.lload_n 1, 1) := by decide +kernel
theorem d_F_step_116 : decode md_F_step.2.1 116 = .ok (.lload 5, 2) := by decide +kernel
theorem d_F_step_118 : decode md_F_step.2.1 118 = .ok (.lcmp, 1) := by decide +kernel
theorem d_F_step_119 : decode md_F_step.2.1 119 = .ok (.ifCond .lt 7, 3) := by decide +kernel
theorem d_F_step_122 : decode md_F_step.2.1 122 = .ok (.lload_n 1, 1) := by decide +kernel
theorem d_F_step_123 : decode md_F_step.2.1 123 = .ok (.goto 5, 3) := by decide +kernel
theorem d_F_step_126 : decode md_F_step.2.1 126 = .ok (.lload 5, 2) := by decide +kernel
theorem d_F_step_128 : decode md_F_step.2.1 128 = .ok (.lreturn, 1) := by decide +kernel
theorem d_R_stateOfFirst_0 : decode md_R_stateOfFirst.2.1 0 = .ok (.aload_n 2, 1) := by decide +kernel
theorem d_R_stateOfFirst_1 : decode md_R_stateOfFirst.2.1 1 = .ok (.getfield 84, 3) := by decide +kernel
theorem d_R_stateOfFirst_4 : decode md_R_stateOfFirst.2.1 4 = .ok (.lstore_n 3, 1) := by decide +kernel
theorem d_R_stateOfFirst_5 : decode md_R_stateOfFirst.2.1 5 = .ok (.iconst 0, 1) := by decide +kernel
theorem d_R_stateOfFirst_6 : decode md_R_stateOfFirst.2.1 6 = .ok (.istore 5, 2) := by decide +kernel
theorem d_R_stateOfFirst_8 : decode md_R_stateOfFirst.2.1 8 = .ok (.iload 5, 2) := by decide +kernel
theorem d_R_stateOfFirst_10 : decode md_R_stateOfFirst.2.1 10 = .ok (.iload_n 1, 1) := by decide +kernel
theorem d_R_stateOfFirst_11 : decode md_R_stateOfFirst.2.1 11 = .ok (.if_icmp .ge 27, 3) := by decide +kernel
theorem d_R_stateOfFirst_14 : decode md_R_stateOfFirst.2.1 14 = .ok (.iload 5, 2) := by decide +kernel
theorem d_R_stateOfFirst_16 : decode md_R_stateOfFirst.2.1 16 = .ok (.aload_n 0, 1) := by decide +kernel
theorem d_R_stateOfFirst_17 : decode md_R_stateOfFirst.2.1 17 = .ok (.getfield 18, 3) := by decide +kernel
theorem d_R_stateOfFirst_20 : decode md_R_stateOfFirst.2.1 20 = .ok (.if_icmp .ge 18, 3) := by decide +kernel
theorem d_R_stateOfFirst_23 : decode md_R_stateOfFirst.2.1 23 = .ok (.aload_n 0, 1) := by decide +kernel
theorem d_R_stateOfFirst_24 : decode md_R_stateOfFirst.2.1 24 = .ok (.iload 5, 2) := by decide +kernel
theorem d_R_stateOfFirst_26 : decode md_R_stateOfFirst.2.1 26 = .ok (.aload_n 2, 1) := by decide +kernel
theorem d_R_stateOfFirst_27 : decode md_R_stateOfFirst.2.1 27 = .ok (.lload_n 3, 1) := by decide +kernel
theorem d_R_stateOfFirst_28 : decode md_R_stateOfFirst.2.1 28 = .ok (.invokevirtual 66, 3) := by decide +kernel
theorem d_R_stateOfFirst_31 : decode md_R_stateOfFirst.2.1 31 = .ok (.lstore_n 3, 1) := by decide +kernel
theorem d_R_stateOfFirst_32 : decode md_R_stateOfFirst.2.1 32 = .ok (.iinc 5 1, 3) := by decide +kernel
theorem d_R_stateOfFirst_35 : decode md_R_stateOfFirst.2.1 35 = .ok (.goto (-27), 3) := by decide +kernel
theorem d_R_stateOfFirst_38 : decode md_R_stateOfFirst.2.1 38 = .ok (.lload_n 3, 1) := by decide +kernel
theorem d_R_stateOfFirst_39 : decode md_R_stateOfFirst.2.1 39 = .ok (.lreturn, 1) := by decide +kernel
theorem d_K_letRowsLeave_0 : decode md_K_letRowsLeave.2.1 0 = .ok (.aload_n 0, 1) := by decide +kernel
theorem d_K_letRowsLeave_1 : decode md_K_letRowsLeave.2.1 1 = .ok (.getfield 76, 3) := by decide +kernel
theorem d_K_letRowsLeave_4 : decode md_K_letRowsLeave.2.1 4 = .ok (.ifCond .ne 4, 3) := by decide +kernel
theorem d_K_letRowsLeave_7 : decode md_K_letRowsLeave.2.1 7 = .ok (.return_, 1) := by decide +kernel
theorem d_K_letRowsLeave_8 : decode md_K_letRowsLeave.2.1 8 = .ok (.iconst 0, 1) := by decide +kernel
theorem d_K_letRowsLeave_9 : decode md_K_letRowsLeave.2.1 9 = .ok (.istore_n 1, 1) := by decide +kernel
theorem d_K_letRowsLeave_10 : decode md_K_letRowsLeave.2.1 10 = .ok (.iload_n 1, 1) := by decide +kernel
theorem d_K_letRowsLeave_11 : decode md_K_letRowsLeave.2.1 11 = .ok (.aload_n 0, 1) := by decide +kernel
theorem d_K_letRowsLeave_12 : decode md_K_letRowsLeave.2.1 12 = .ok (.getfield 16, 3) := by decide +kernel
theorem d_K_letRowsLeave_15 : decode md_K_letRowsLeave.2.1 15 = .ok (.invokevirtual 92, 3) := by decide +kernel
theorem d_K_letRowsLeave_18 : decode md_K_letRowsLeave.2.1 18 = .ok (.if_icmp .ge 42, 3) := by decide +kernel
theorem d_K_letRowsLeave_21 : decode md_K_letRowsLeave.2.1 21 = .ok (.aload_n 0, 1) := by decide +kernel
theorem d_K_letRowsLeave_22 : decode md_K_letRowsLeave.2.1 22 = .ok (.dup, 1) := by decide +kernel
theorem d_K_letRowsLeave_23 : decode md_K_letRowsLeave.2.1 23 = .ok (.getfield 66, 3) := by decide +kernel
theorem d_K_letRowsLeave_26 : decode md_K_letRowsLeave.2.1 26 = .ok (.aload_n 0, 1) := by decide +kernel
theorem d_K_letRowsLeave_27 : decode md_K_letRowsLeave.2.1 27 = .ok (.getfield 16, 3) := by decide +kernel
theorem d_K_letRowsLeave_30 : decode md_K_letRowsLeave.2.1 30 = .ok (.iload_n 1, 1) := by decide +kernel
theorem d_K_letRowsLeave_31 : decode md_K_letRowsLeave.2.1 31 = .ok (.invokevirtual 125, 3) := by decide +kernel
theorem d_K_letRowsLeave_34 : decode md_K_letRowsLeave.2.1 34 = .ok (.checkcast 196, 3) := by decide +kernel
theorem d_K_letRowsLeave_37 : decode md_K_letRowsLeave.2.1 37 = .ok (.aload_n 0, 1) := by decide +kernel
theorem d_K_letRowsLeave_38 : decode md_K_letRowsLeave.2.1 38 = .ok (.invokevirtual 240, 3) := by decide +kernel
theorem d_K_letRowsLeave_41 : decode md_K_letRowsLeave.2.1 41 = .ok (.aload_n 0, 1) := by decide +kernel
theorem d_K_letRowsLeave_42 : decode md_K_letRowsLeave.2.1 42 = .ok (.getfield 76, 3) := by decide +kernel
theorem d_K_letRowsLeave_45 : decode md_K_letRowsLeave.2.1 45 = .ok (.i2l, 1) := by decide +kernel
theorem d_K_letRowsLeave_46 : decode md_K_letRowsLeave.2.1 46 = .ok (.lsub, 1) := by decide +kernel
theorem d_K_letRowsLeave_47 : decode md_K_letRowsLeave.2.1 47 = .ok (.invokevirtual 307, 3) := by decide +kernel
theorem d_K_letRowsLeave_50 : decode md_K_letRowsLeave.2.1 50 = .ok (.iadd, 1) := by decide +kernel
theorem d_K_letRowsLeave_51 : decode md_K_letRowsLeave.2.1 51 = .ok (.putfield 66, 3) := by decide +kernel
theorem d_K_letRowsLeave_54 : decode md_K_letRowsLeave.2.1 54 = .ok (.iinc 1 1, 3) := by decide +kernel
theorem d_K_letRowsLeave_57 : decode md_K_letRowsLeave.2.1 57 = .ok (.goto (-47), 3) := by decide +kernel
theorem d_K_letRowsLeave_60 : decode md_K_letRowsLeave.2.1 60 = .ok (.return_, 1) := by decide +kernel
theorem d_R_leaveBelow_0 : decode md_R_leaveBelow.2.1 0 = .ok (.aload_n 0, 1) := by decide +kernel
theorem d_R_leaveBelow_1 : decode md_R_leaveBelow.2.1 1 = .ok (.lload_n 1, 1) := by decide +kernel
theorem d_R_leaveBelow_2 : decode md_R_leaveBelow.2.1 2 = .ok (.invokevirtual 42, 3) := by decide +kernel
theorem d_R_leaveBelow_5 : decode md_R_leaveBelow.2.1 5 = .ok (.istore_n 3, 1) := by decide +kernel
theorem d_R_leaveBelow_6 : decode md_R_leaveBelow.2.1 6 = .ok (.iload_n 3, 1) := by decide +kernel
theorem d_R_leaveBelow_7 : decode md_R_leaveBelow.2.1 7 = .ok (.ifCond .le 17, 3) := by decide +kernel
theorem d_R_leaveBelow_10 : decode md_R_leaveBelow.2.1 10 = .ok (.aload_n 0, 1) := by decide +kernel
theorem d_R_leaveBelow_11 : decode md_R_leaveBelow.2.1 11 = .ok (.iload_n 3, 1) := by decide +kernel
theorem d_R_leaveBelow_12 : decode md_R_leaveBelow.2.1 12 = .ok (.invokevirtual 74, 3) := by decide +kernel
theorem d_R_leaveBelow_15 : decode md_R_leaveBelow.2.1 15 = .ok (.aload_n 0, 1) := by decide +kernel
theorem d_R_leaveBelow_16 : decode md_R_leaveBelow.2.1 16 = .ok (.iload_n 3, 1) := by decide +kernel
theorem d_R_leaveBelow_17 : decode md_R_leaveBelow.2.1 17 = .ok (.invokevirtual 78, 3) := by decide +kernel
theorem d_R_leaveBelow_20 : decode md_R_leaveBelow.2.1 20 = .ok (.aload_n 0, 1) := by decide +kernel
theorem d_R_leaveBelow_21 : decode md_R_leaveBelow.2.1 21 = .ok (.invokevirtual 81, 3) := by decide +kernel
theorem d_R_leaveBelow_24 : decode md_R_leaveBelow.2.1 24 = .ok (.iload_n 3, 1) := by decide +kernel
theorem d_R_leaveBelow_25 : decode md_R_leaveBelow.2.1 25 = .ok (.ireturn, 1) := by decide +kernel
theorem d_R_takeBackFirst_0 : decode md_R_takeBackFirst.2.1 0 = .ok (.iconst 0, 1) := by decide +kernel
theorem d_R_takeBackFirst_1 : decode md_R_takeBackFirst.2.1 1 = .ok (.istore_n 2, 1) := by decide +kernel
theorem d_R_takeBackFirst_2 : decode md_R_takeBackFirst.2.1 2 = .ok (.iload_n 2, 1) := by decide +kernel
theorem d_R_takeBackFirst_3 : decode md_R_takeBackFirst.2.1 3 = .ok (.aload_n 0, 1) := by decide +kernel
theorem d_R_takeBackFirst_4 : decode md_R_takeBackFirst.2.1 4 = .ok (.getfield 29, 3) := by decide +kernel
theorem d_R_takeBackFirst_7 : decode md_R_takeBackFirst.2.1 7 = .ok (.invokevirtual 50, 3) := by decide +kernel
theorem d_R_takeBackFirst_10 : decode md_R_takeBackFirst.2.1 10 = .ok (.if_icmp .ge 76, 3) := by decide +kernel
theorem d_R_takeBackFirst_13 : decode md_R_takeBackFirst.2.1 13 = .ok (.aload_n 0, 1) := by decide +kernel
theorem d_R_takeBackFirst_14 : decode md_R_takeBackFirst.2.1 14 = .ok (.getfield 29, 3) := by decide +kernel
theorem d_R_takeBackFirst_17 : decode md_R_takeBackFirst.2.1 17 = .ok (.iload_n 2, 1) := by decide +kernel
theorem d_R_takeBackFirst_18 : decode md_R_takeBackFirst.2.1 18 = .ok (.invokevirtual 56, 3) := by decide +kernel
theorem d_R_takeBackFirst_21 : decode md_R_takeBackFirst.2.1 21 = .ok (.checkcast 60, 3) := by decide +kernel
theorem d_R_takeBackFirst_24 : decode md_R_takeBackFirst.2.1 24 = .ok (.astore_n 3, 1) := by decide +kernel
theorem d_R_takeBackFirst_25 : decode md_R_takeBackFirst.2.1 25 = .ok (.aload_n 3, 1) := by decide +kernel
theorem d_R_takeBackFirst_26 : decode md_R_takeBackFirst.2.1 26 = .ok (.invokevirtual 91, 3) := by decide +kernel
theorem d_R_takeBackFirst_29 : decode md_R_takeBackFirst.2.1 29 = .ok (.ifCond .eq 51, 3) := by decide +kernel
theorem d_R_takeBackFirst_32 : decode md_R_takeBackFirst.2.1 32 = .ok (.iconst 0, 1) := by decide +kernel
theorem d_R_takeBackFirst_33 : decode md_R_takeBackFirst.2.1 33 = .ok (.istore 4, 2) := by decide +kernel
theorem d_R_takeBackFirst_35 : decode md_R_takeBackFirst.2.1 35 = .ok (.iload 4, 2) := by decide +kernel
theorem d_R_takeBackFirst_37 : decode md_R_takeBackFirst.2.1 37 = .ok (.iload_n 1, 1) := by decide +kernel
theorem d_R_takeBackFirst_38 : decode md_R_takeBackFirst.2.1 38 = .ok (.if_icmp .ge 32, 3) := by decide +kernel
theorem d_R_takeBackFirst_41 : decode md_R_takeBackFirst.2.1 41 = .ok (.aload_n 0, 1) := by decide +kernel
theorem d_R_takeBackFirst_42 : decode md_R_takeBackFirst.2.1 42 = .ok (.getfield 33, 3) := by decide +kernel
theorem d_R_takeBackFirst_45 : decode md_R_takeBackFirst.2.1 45 = .ok (.iload_n 2, 1) := by decide +kernel
theorem d_R_takeBackFirst_46 : decode md_R_takeBackFirst.2.1 46 = .ok (.aload_n 3, 1) := by decide +kernel
theorem d_R_takeBackFirst_47 : decode md_R_takeBackFirst.2.1 47 = .ok (.aload_n 0, 1) := by decide +kernel
theorem d_R_takeBackFirst_48 : decode md_R_takeBackFirst.2.1 48 = .ok (.getfield 33, 3) := by decide +kernel
theorem d_R_takeBackFirst_51 : decode md_R_takeBackFirst.2.1 51 = .ok (.iload_n 2, 1) := by decide +kernel
theorem d_R_takeBackFirst_52 : decode md_R_takeBackFirst.2.1 52 = .ok (.laload, 1) := by decide +kernel
theorem d_R_takeBackFirst_53 : decode md_R_takeBackFirst.2.1 53 = .ok (.aload_n 0, 1) := by decide +kernel
theorem d_R_takeBackFirst_54 : decode md_R_takeBackFirst.2.1 54 = .ok (.getfield 15, 3) := by decide +kernel
theorem d_R_takeBackFirst_57 : decode md_R_takeBackFirst.2.1 57 = .ok (.iload 4, 2) := by decide +kernel
theorem d_R_takeBackFirst_59 : decode md_R_takeBackFirst.2.1 59 = .ok (.laload, 1) := by decide +kernel
theorem d_R_takeBackFirst_60 : decode md_R_takeBackFirst.2.1 60 = .ok (.invokevirtual 94, 3) := by decide +kernel
theorem d_R_takeBackFirst_63 : decode md_R_takeBackFirst.2.1 63 = .ok (.lastore, 1) := by decide +kernel
theorem d_R_takeBackFirst_64 : decode md_R_takeBackFirst.2.1 64 = .ok (.iinc 4 1, 3) := by decide +kernel
theorem d_R_takeBackFirst_67 : decode md_R_takeBackFirst.2.1 67 = .ok (.goto (-32), 3) := by decide +kernel
theorem d_R_takeBackFirst_70 : decode md_R_takeBackFirst.2.1 70 = .ok (.aload_n 0, 1) := by decide +kernel
theorem d_R_takeBackFirst_71 : decode md_R_takeBackFirst.2.1 71 = .ok (.dup, 1) := by decide +kernel
theorem d_R_takeBackFirst_72 : decode md_R_takeBackFirst.2.1 72 = .ok (.getfield 22, 3) := by decide +kernel
theorem d_R_takeBackFirst_75 : decode md_R_takeBackFirst.2.1 75 = .ok (.iload_n 1, 1) := by decide +kernel
theorem d_R_takeBackFirst_76 : decode md_R_takeBackFirst.2.1 76 = .ok (.iadd, 1) := by decide +kernel
theorem d_R_takeBackFirst_77 : decode md_R_takeBackFirst.2.1 77 = .ok (.putfield 22, 3) := by decide +kernel
theorem d_R_takeBackFirst_80 : decode md_R_takeBackFirst.2.1 80 = .ok (.iinc 2 1, 3) := by decide +kernel
theorem d_R_takeBackFirst_83 : decode md_R_takeBackFirst.2.1 83 = .ok (.goto (-81), 3) := by decide +kernel
theorem d_R_takeBackFirst_86 : decode md_R_takeBackFirst.2.1 86 = .ok (.return_, 1) := by decide +kernel
theorem d_F_stepTakenBack_0 : decode md_F_stepTakenBack.2.1 0 = .ok (.aload_n 0, 1) := by decide +kernel
theorem d_F_stepTakenBack_1 : decode md_F_stepTakenBack.2.1 1 = .ok (.getfield 19, 3) := by decide +kernel
theorem d_F_stepTakenBack_4 : decode md_F_stepTakenBack.2.1 4 = .ok (.lookupswitch 53 #[(0, 36), (6, 40), (7, 44)], 36) := by decide +kernel
theorem d_F_stepTakenBack_40 : decode md_F_stepTakenBack.2.1 40 = .ok (.lload_n 1, 1) := by decide +kernel
theorem d_F_stepTakenBack_41 : decode md_F_stepTakenBack.2.1 41 = .ok (.lload_n 3, 1) := by decide +kernel
theorem d_F_stepTakenBack_42 : decode md_F_stepTakenBack.2.1 42 = .ok (.lsub, 1) := by decide +kernel
theorem d_F_stepTakenBack_43 : decode md_F_stepTakenBack.2.1 43 = .ok (.lreturn, 1) := by decide +kernel
theorem d_F_stepTakenBack_44 : decode md_F_stepTakenBack.2.1 44 = .ok (.lload_n 1, 1) := by decide +kernel
theorem d_F_stepTakenBack_45 : decode md_F_stepTakenBack.2.1 45 = .ok (.lconst 1, 1) := by decide +kernel
theorem d_F_stepTakenBack_46 : decode md_F_stepTakenBack.2.1 46 = .ok (.lsub, 1) := by decide +kernel
theorem d_F_stepTakenBack_47 : decode md_F_stepTakenBack.2.1 47 = .ok (.lreturn, 1) := by decide +kernel
theorem d_F_stepTakenBack_48 : decode md_F_stepTakenBack.2.1 48 = .ok (.lload_n 1, 1) := by decide +kernel
theorem d_F_stepTakenBack_49 : decode md_F_stepTakenBack.2.1 49 = .ok (.lload_n 3, 1) := by decide +kernel
theorem d_F_stepTakenBack_50 : decode md_F_stepTakenBack.2.1 50 = .ok (.aload_n 0, 1) := by decide +kernel
theorem d_F_stepTakenBack_51 : decode md_F_stepTakenBack.2.1 51 = .ok (.getfield 26, 3) := by decide +kernel
theorem d_F_stepTakenBack_54 : decode md_F_stepTakenBack.2.1 54 = .ok (.lmul, 1) := by decide +kernel
theorem d_F_stepTakenBack_55 : decode md_F_stepTakenBack.2.1 55 = .ok (.lxor, 1) := by decide +kernel
theorem d_F_stepTakenBack_56 : decode md_F_stepTakenBack.2.1 56 = .ok (.lreturn, 1) := by decide +kernel
theorem d_F_stepTakenBack_57 : decode md_F_stepTakenBack.2.1 57 = .ok (.lload_n 1, 1) := by decide +kernel
theorem d_F_stepTakenBack_58 : decode md_F_stepTakenBack.2.1 58 = .ok (.lreturn, 1) := by decide +kernel
theorem d_R_removeFirst_0 : decode md_R_removeFirst.2.1 0 = .ok (.iload_n 1, 1) := by decide +kernel
theorem d_R_removeFirst_1 : decode md_R_removeFirst.2.1 1 = .ok (.istore_n 2, 1) := by decide +kernel
theorem d_R_removeFirst_2 : decode md_R_removeFirst.2.1 2 = .ok (.iload_n 2, 1) := by decide +kernel
theorem d_R_removeFirst_3 : decode md_R_removeFirst.2.1 3 = .ok (.aload_n 0, 1) := by decide +kernel
theorem d_R_removeFirst_4 : decode md_R_removeFirst.2.1 4 = .ok (.getfield 18, 3) := by decide +kernel
theorem d_R_removeFirst_7 : decode md_R_removeFirst.2.1 7 = .ok (.if_icmp .ge 37, 3) := by decide +kernel
theorem d_R_removeFirst_10 : decode md_R_removeFirst.2.1 10 = .ok (.aload_n 0, 1) := by decide +kernel
theorem d_R_removeFirst_11 : decode md_R_removeFirst.2.1 11 = .ok (.getfield 9, 3) := by decide +kernel
theorem d_R_removeFirst_14 : decode md_R_removeFirst.2.1 14 = .ok (.iload_n 2, 1) := by decide +kernel
theorem d_R_removeFirst_15 : decode md_R_removeFirst.2.1 15 = .ok (.iload_n 1, 1) := by decide +kernel
theorem d_R_removeFirst_16 : decode md_R_removeFirst.2.1 16 = .ok (.isub, 1) := by decide +kernel
theorem d_R_removeFirst_17 : decode md_R_removeFirst.2.1 17 = .ok (.aload_n 0, 1) := by decide +kernel
theorem d_R_removeFirst_18 : decode md_R_removeFirst.2.1 18 = .ok (.getfield 9, 3) := by decide +kernel
theorem d_R_removeFirst_21 : decode md_R_removeFirst.2.1 21 = .ok (.iload_n 2, 1) := by decide +kernel
theorem d_R_removeFirst_22 : decode md_R_removeFirst.2.1 22 = .ok (.laload, 1) := by decide +kernel
theorem d_R_removeFirst_23 : decode md_R_removeFirst.2.1 23 = .ok (.lastore, 1) := by decide +kernel
theorem d_R_removeFirst_24 : decode md_R_removeFirst.2.1 24 = .ok (.aload_n 0, 1) := by decide +kernel
theorem d_R_removeFirst_25 : decode md_R_removeFirst.2.1 25 = .ok (.getfield 15, 3) := by decide +kernel
theorem d_R_removeFirst_28 : decode md_R_removeFirst.2.1 28 = .ok (.iload_n 2, 1) := by decide +kernel
theorem d_R_removeFirst_29 : decode md_R_removeFirst.2.1 29 = .ok (.iload_n 1, 1) := by decide +kernel
theorem d_R_removeFirst_30 : decode md_R_removeFirst.2.1 30 = .ok (.isub, 1) := by decide +kernel
theorem d_R_removeFirst_31 : decode md_R_removeFirst.2.1 31 = .ok (.aload_n 0, 1) := by decide +kernel
theorem d_R_removeFirst_32 : decode md_R_removeFirst.2.1 32 = .ok (.getfield 15, 3) := by decide +kernel
theorem d_R_removeFirst_35 : decode md_R_removeFirst.2.1 35 = .ok (.iload_n 2, 1) := by decide +kernel
theorem d_R_removeFirst_36 : decode md_R_removeFirst.2.1 36 = .ok (.laload, 1) := by decide +kernel
theorem d_R_removeFirst_37 : decode md_R_removeFirst.2.1 37 = .ok (.lastore, 1) := by decide +kernel
theorem d_R_removeFirst_38 : decode md_R_removeFirst.2.1 38 = .ok (.iinc 2 1, 3) := by decide +kernel
theorem d_R_removeFirst_41 : decode md_R_removeFirst.2.1 41 = .ok (.goto (-39), 3) := by decide +kernel
theorem d_R_removeFirst_44 : decode md_R_removeFirst.2.1 44 = .ok (.aload_n 0, 1) := by decide +kernel
theorem d_R_removeFirst_45 : decode md_R_removeFirst.2.1 45 = .ok (.dup, 1) := by decide +kernel
theorem d_R_removeFirst_46 : decode md_R_removeFirst.2.1 46 = .ok (.getfield 18, 3) := by decide +kernel
theorem d_R_removeFirst_49 : decode md_R_removeFirst.2.1 49 = .ok (.iload_n 1, 1) := by decide +kernel
theorem d_R_removeFirst_50 : decode md_R_removeFirst.2.1 50 = .ok (.isub, 1) := by decide +kernel
theorem d_R_removeFirst_51 : decode md_R_removeFirst.2.1 51 = .ok (.putfield 18, 3) := by decide +kernel
theorem d_R_removeFirst_54 : decode md_R_removeFirst.2.1 54 = .ok (.return_, 1) := by decide +kernel
theorem d_R_foldTheOthersAnew_0 : decode md_R_foldTheOthersAnew.2.1 0 = .ok (.iconst 0, 1) := by decide +kernel
theorem d_R_foldTheOthersAnew_1 : decode md_R_foldTheOthersAnew.2.1 1 = .ok (.istore_n 1, 1) := by decide +kernel
theorem d_R_foldTheOthersAnew_2 : decode md_R_foldTheOthersAnew.2.1 2 = .ok (.iload_n 1, 1) := by decide +kernel
theorem d_R_foldTheOthersAnew_3 : decode md_R_foldTheOthersAnew.2.1 3 = .ok (.aload_n 0, 1) := by decide +kernel
theorem d_R_foldTheOthersAnew_4 : decode md_R_foldTheOthersAnew.2.1 4 = .ok (.getfield 29, 3) := by decide +kernel
theorem d_R_foldTheOthersAnew_7 : decode md_R_foldTheOthersAnew.2.1 7 = .ok (.invokevirtual 50, 3) := by decide +kernel
theorem d_R_foldTheOthersAnew_10 : decode md_R_foldTheOthersAnew.2.1 10 = .ok (.if_icmp .ge 56, 3) := by decide +kernel
theorem d_R_foldTheOthersAnew_13 : decode md_R_foldTheOthersAnew.2.1 13 = .ok (.aload_n 0, 1) := by decide +kernel
theorem d_R_foldTheOthersAnew_14 : decode md_R_foldTheOthersAnew.2.1 14 = .ok (.getfield 29, 3) := by decide +kernel
theorem d_R_foldTheOthersAnew_17 : decode md_R_foldTheOthersAnew.2.1 17 = .ok (.iload_n 1, 1) := by decide +kernel
theorem d_R_foldTheOthersAnew_18 : decode md_R_foldTheOthersAnew.2.1 18 = .ok (.invokevirtual 56, 3) := by decide +kernel
theorem d_R_foldTheOthersAnew_21 : decode md_R_foldTheOthersAnew.2.1 21 = .ok (.checkcast 60, 3) := by decide +kernel
theorem d_R_foldTheOthersAnew_24 : decode md_R_foldTheOthersAnew.2.1 24 = .ok (.astore_n 2, 1) := by decide +kernel
theorem d_R_foldTheOthersAnew_25 : decode md_R_foldTheOthersAnew.2.1 25 = .ok (.aload_n 2, 1) := by decide +kernel
theorem d_R_foldTheOthersAnew_26 : decode md_R_foldTheOthersAnew.2.1 26 = .ok (.invokevirtual 91, 3) := by decide +kernel
theorem d_R_foldTheOthersAnew_29 : decode md_R_foldTheOthersAnew.2.1 29 = .ok (.ifCond .ne 31, 3) := by decide +kernel
theorem d_R_foldTheOthersAnew_32 : decode md_R_foldTheOthersAnew.2.1 32 = .ok (.aload_n 0, 1) := by decide +kernel
theorem d_R_foldTheOthersAnew_33 : decode md_R_foldTheOthersAnew.2.1 33 = .ok (.getfield 33, 3) := by decide +kernel
theorem d_R_foldTheOthersAnew_36 : decode md_R_foldTheOthersAnew.2.1 36 = .ok (.iload_n 1, 1) := by decide +kernel
theorem d_R_foldTheOthersAnew_37 : decode md_R_foldTheOthersAnew.2.1 37 = .ok (.aload_n 0, 1) := by decide +kernel
theorem d_R_foldTheOthersAnew_38 : decode md_R_foldTheOthersAnew.2.1 38 = .ok (.aload_n 0, 1) := by decide +kernel
theorem d_R_foldTheOthersAnew_39 : decode md_R_foldTheOthersAnew.2.1 39 = .ok (.getfield 18, 3) := by decide +kernel
theorem d_R_foldTheOthersAnew_42 : decode md_R_foldTheOthersAnew.2.1 42 = .ok (.aload_n 2, 1) := by decide +kernel
theorem d_R_foldTheOthersAnew_43 : decode md_R_foldTheOthersAnew.2.1 43 = .ok (.invokevirtual 70, 3) := by decide +kernel
theorem d_R_foldTheOthersAnew_46 : decode md_R_foldTheOthersAnew.2.1 46 = .ok (.lastore, 1) := by decide +kernel
theorem d_R_foldTheOthersAnew_47 : decode md_R_foldTheOthersAnew.2.1 47 = .ok (.aload_n 0, 1) := by decide +kernel
theorem d_R_foldTheOthersAnew_48 : decode md_R_foldTheOthersAnew.2.1 48 = .ok (.dup, 1) := by decide +kernel
theorem d_R_foldTheOthersAnew_49 : decode md_R_foldTheOthersAnew.2.1 49 = .ok (.getfield 22, 3) := by decide +kernel
theorem d_R_foldTheOthersAnew_52 : decode md_R_foldTheOthersAnew.2.1 52 = .ok (.aload_n 0, 1) := by decide +kernel
theorem d_R_foldTheOthersAnew_53 : decode md_R_foldTheOthersAnew.2.1 53 = .ok (.getfield 18, 3) := by decide +kernel
theorem d_R_foldTheOthersAnew_56 : decode md_R_foldTheOthersAnew.2.1 56 = .ok (.iadd, 1) := by decide +kernel
theorem d_R_foldTheOthersAnew_57 : decode md_R_foldTheOthersAnew.2.1 57 = .ok (.putfield 22, 3) := by decide +kernel
theorem d_R_foldTheOthersAnew_60 : decode md_R_foldTheOthersAnew.2.1 60 = .ok (.iinc 1 1, 3) := by decide +kernel
theorem d_R_foldTheOthersAnew_63 : decode md_R_foldTheOthersAnew.2.1 63 = .ok (.goto (-61), 3) := by decide +kernel
theorem d_R_foldTheOthersAnew_66 : decode md_R_foldTheOthersAnew.2.1 66 = .ok (.return_, 1) := by decide +kernel
theorem d_K_doTimers_0 : decode md_K_doTimers.2.1 0 = .ok (.aload_n 0, 1) := by decide +kernel
theorem d_K_doTimers_1 : decode md_K_doTimers.2.1 1 = .ok (.getfield 82, 3) := by decide +kernel
theorem d_K_doTimers_4 : decode md_K_doTimers.2.1 4 = .ok (.ifCond .eq 12, 3) := by decide +kernel
theorem d_K_doTimers_7 : decode md_K_doTimers.2.1 7 = .ok (.aload_n 0, 1) := by decide +kernel
theorem d_K_doTimers_8 : decode md_K_doTimers.2.1 8 = .ok (.invokevirtual 240, 3) := by decide +kernel
theorem d_K_doTimers_11 : decode md_K_doTimers.2.1 11 = .ok (.lconst 0, 1) := by decide +kernel
theorem d_K_doTimers_12 : decode md_K_doTimers.2.1 12 = .ok (.lcmp, 1) := by decide +kernel
theorem d_K_doTimers_13 : decode md_K_doTimers.2.1 13 = .ok (.ifCond .gt 4, 3) := by decide +kernel
theorem d_K_doTimers_16 : decode md_K_doTimers.2.1 16 = .ok (.return_, 1) := by decide +kernel
theorem d_K_doTimers_17 : decode md_K_doTimers.2.1 17 = .ok (.aload_n 0, 1) := by decide +kernel
theorem d_K_doTimers_18 : decode md_K_doTimers.2.1 18 = .ok (.invokevirtual 240, 3) := by decide +kernel
theorem d_K_doTimers_21 : decode md_K_doTimers.2.1 21 = .ok (.aload_n 0, 1) := by decide +kernel
theorem d_K_doTimers_22 : decode md_K_doTimers.2.1 22 = .ok (.getfield 82, 3) := by decide +kernel
theorem d_K_doTimers_25 : decode md_K_doTimers.2.1 25 = .ok (.i2l, 1) := by decide +kernel
theorem d_K_doTimers_26 : decode md_K_doTimers.2.1 26 = .ok (.ldiv, 1) := by decide +kernel
theorem d_K_doTimers_27 : decode md_K_doTimers.2.1 27 = .ok (.aload_n 0, 1) := by decide +kernel
theorem d_K_doTimers_28 : decode md_K_doTimers.2.1 28 = .ok (.getfield 82, 3) := by decide +kernel
theorem d_K_doTimers_31 : decode md_K_doTimers.2.1 31 = .ok (.i2l, 1) := by decide +kernel
theorem d_K_doTimers_32 : decode md_K_doTimers.2.1 32 = .ok (.lmul, 1) := by decide +kernel
theorem d_K_doTimers_33 : decode md_K_doTimers.2.1 33 = .ok (.lstore_n 1, 1) := by decide +kernel
theorem d_K_doTimers_34 : decode md_K_doTimers.2.1 34 = .ok (.lload_n 1, 1) := by decide +kernel
theorem d_K_doTimers_35 : decode md_K_doTimers.2.1 35 = .ok (.aload_n 0, 1) := by decide +kernel
theorem d_K_doTimers_36 : decode md_K_doTimers.2.1 36 = .ok (.getfield 51, 3) := by decide +kernel
theorem d_K_doTimers_39 : decode md_K_doTimers.2.1 39 = .ok (.lsub, 1) := by decide +kernel
theorem d_K_doTimers_40 : decode md_K_doTimers.2.1 40 = .ok (.aload_n 0, 1) := by decide +kernel
theorem d_K_doTimers_41 : decode md_K_doTimers.2.1 41 = .ok (.getfield 82, 3) := by decide +kernel
theorem d_K_doTimers_44 : decode md_K_doTimers.2.1 44 = .ok (.i2l, 1) := by decide +kernel
theorem d_K_doTimers_45 : decode md_K_doTimers.2.1 45 = .ok (.ldiv, 1) := by decide +kernel
theorem d_K_doTimers_46 : decode md_K_doTimers.2.1 46 = .ok (.ldc2_w 310, 3) := by decide +kernel
theorem d_K_doTimers_49 : decode md_K_doTimers.2.1 49 = .ok (.invokestatic 312, 3) := by decide +kernel
theorem d_K_doTimers_52 : decode md_K_doTimers.2.1 52 = .ok (.lstore_n 3, 1) := by decide +kernel
theorem d_K_doTimers_53 : decode md_K_doTimers.2.1 53 = .ok (.lload_n 3, 1) := by decide +kernel
theorem d_K_doTimers_54 : decode md_K_doTimers.2.1 54 = .ok (.lconst 1, 1) := by decide +kernel
theorem d_K_doTimers_55 : decode md_K_doTimers.2.1 55 = .ok (.lsub, 1) := by decide +kernel
theorem d_K_doTimers_56 : decode md_K_doTimers.2.1 56 = .ok (.lstore 5, 2) := by decide +kernel
theorem d_K_doTimers_58 : decode md_K_doTimers.2.1 58 = .ok (.lload 5, 2) := by decide +kernel
theorem d_K_doTimers_60 : decode md_K_doTimers.2.1 60 = .ok (.lconst 0, 1) := by decide +kernel
theorem d_K_doTimers_61 : decode md_K_doTimers.2.1 61 = .ok (.lcmp, 1) := by decide +kernel
theorem d_K_doTimers_62 : decode md_K_doTimers.2.1 62 = .ok (.ifCond .lt 26, 3) := by decide +kernel
theorem d_K_doTimers_65 : decode md_K_doTimers.2.1 65 = .ok (.aload_n 0, 1) := by decide +kernel
theorem d_K_doTimers_66 : decode md_K_doTimers.2.1 66 = .ok (.lload_n 1, 1) := by decide +kernel
theorem d_K_doTimers_67 : decode md_K_doTimers.2.1 67 = .ok (.lload 5, 2) := by decide +kernel
theorem d_K_doTimers_69 : decode md_K_doTimers.2.1 69 = .ok (.aload_n 0, 1) := by decide +kernel
theorem d_K_doTimers_70 : decode md_K_doTimers.2.1 70 = .ok (.getfield 82, 3) := by decide +kernel
theorem d_K_doTimers_73 : decode md_K_doTimers.2.1 73 = .ok (.i2l, 1) := by decide +kernel
theorem d_K_doTimers_74 : decode md_K_doTimers.2.1 74 = .ok (.lmul, 1) := by decide +kernel
theorem d_K_doTimers_75 : decode md_K_doTimers.2.1 75 = .ok (.lsub, 1) := by decide +kernel
theorem d_K_doTimers_76 : decode md_K_doTimers.2.1 76 = .ok (.invokevirtual 314, 3) := by decide +kernel
theorem d_K_doTimers_79 : decode md_K_doTimers.2.1 79 = .ok (.lload 5, 2) := by decide +kernel
theorem d_K_doTimers_81 : decode md_K_doTimers.2.1 81 = .ok (.lconst 1, 1) := by decide +kernel
theorem d_K_doTimers_82 : decode md_K_doTimers.2.1 82 = .ok (.lsub, 1) := by decide +kernel
theorem d_K_doTimers_83 : decode md_K_doTimers.2.1 83 = .ok (.lstore 5, 2) := by decide +kernel
