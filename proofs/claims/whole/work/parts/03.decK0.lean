theorem d_K_init_0 : decode md_K_init.2.1 0 = .ok (.aload_n 0, 1) := by decide +kernel
theorem d_K_init_1 : decode md_K_init.2.1 1 = .ok (.invokespecial 1, 3) := by decide +kernel
theorem d_K_init_4 : decode md_K_init.2.1 4 = .ok (.aload_n 0, 1) := by decide +kernel
theorem d_K_init_5 : decode md_K_init.2.1 5 = .ok (.new 7, 3) := by decide +kernel
theorem d_K_init_8 : decode md_K_init.2.1 8 = .ok (.dup, 1) := by decide +kernel
theorem d_K_init_9 : decode md_K_init.2.1 9 = .ok (.invokespecial 9, 3) := by decide +kernel
theorem d_K_init_12 : decode md_K_init.2.1 12 = .ok (.putfield 10, 3) := by decide +kernel
theorem d_K_init_15 : decode md_K_init.2.1 15 = .ok (.aload_n 0, 1) := by decide +kernel
theorem d_K_init_16 : decode md_K_init.2.1 16 = .ok (.new 7, 3) := by decide +kernel
theorem d_K_init_19 : decode md_K_init.2.1 19 = .ok (.dup, 1) := by decide +kernel
theorem d_K_init_20 : decode md_K_init.2.1 20 = .ok (.invokespecial 9, 3) := by decide +kernel
theorem d_K_init_23 : decode md_K_init.2.1 23 = .ok (.putfield 16, 3) := by decide +kernel
theorem d_K_init_26 : decode md_K_init.2.1 26 = .ok (.aload_n 0, 1) := by decide +kernel
theorem d_K_init_27 : decode md_K_init.2.1 27 = .ok (.new 19, 3) := by decide +kernel
theorem d_K_init_30 : decode md_K_init.2.1 30 = .ok (.dup, 1) := by decide +kernel
theorem d_K_init_31 : decode md_K_init.2.1 31 = .ok (.invokespecial 21, 3) := by decide +kernel
theorem d_K_init_34 : decode md_K_init.2.1 34 = .ok (.putfield 22, 3) := by decide +kernel
theorem d_K_init_37 : decode md_K_init.2.1 37 = .ok (.aload_n 0, 1) := by decide +kernel
theorem d_K_init_38 : decode md_K_init.2.1 38 = .ok (.new 26, 3) := by decide +kernel
theorem d_K_init_41 : decode md_K_init.2.1 41 = .ok (.dup, 1) := by decide +kernel
theorem d_K_init_42 : decode md_K_init.2.1 42 = .ok (.bipush 100, 2) := by decide +kernel
theorem d_K_init_44 : decode md_K_init.2.1 44 = .ok (.iconst 4, 1) := by decide +kernel
theorem d_K_init_45 : decode md_K_init.2.1 45 = .ok (.invokespecial 28, 3) := by decide +kernel
theorem d_K_init_48 : decode md_K_init.2.1 48 = .ok (.putfield 31, 3) := by decide +kernel
theorem d_K_init_51 : decode md_K_init.2.1 51 = .ok (.aload_n 0, 1) := by decide +kernel
theorem d_K_init_52 : decode md_K_init.2.1 52 = .ok (.new 26, 3) := by decide +kernel
theorem d_K_init_55 : decode md_K_init.2.1 55 = .ok (.dup, 1) := by decide +kernel
theorem d_K_init_56 : decode md_K_init.2.1 56 = .ok (.sipush 300, 3) := by decide +kernel
theorem d_K_init_59 : decode md_K_init.2.1 59 = .ok (.bipush 8, 2) := by decide +kernel
theorem d_K_init_61 : decode md_K_init.2.1 61 = .ok (.invokespecial 28, 3) := by decide +kernel
theorem d_K_init_64 : decode md_K_init.2.1 64 = .ok (.putfield 35, 3) := by decide +kernel
theorem d_K_init_67 : decode md_K_init.2.1 67 = .ok (.aload_n 0, 1) := by decide +kernel
theorem d_K_init_68 : decode md_K_init.2.1 68 = .ok (.iconst 0, 1) := by decide +kernel
theorem d_K_init_69 : decode md_K_init.2.1 69 = .ok (.putfield 38, 3) := by decide +kernel
theorem d_K_init_72 : decode md_K_init.2.1 72 = .ok (.aload_n 0, 1) := by decide +kernel
theorem d_K_init_73 : decode md_K_init.2.1 73 = .ok (.iconst 0, 1) := by decide +kernel
theorem d_K_init_74 : decode md_K_init.2.1 74 = .ok (.putfield 42, 3) := by decide +kernel
theorem d_K_init_77 : decode md_K_init.2.1 77 = .ok (.aload_n 0, 1) := by decide +kernel
theorem d_K_init_78 : decode md_K_init.2.1 78 = .ok (.ldc2_w 45, 3) := by decide +kernel
theorem d_K_init_81 : decode md_K_init.2.1 81 = .ok (.putfield 47, 3) := by decide +kernel
theorem d_K_init_84 : decode md_K_init.2.1 84 = .ok (.aload_n 0, 1) := by decide +kernel
theorem d_K_init_85 : decode md_K_init.2.1 85 = .ok (.lconst 0, 1) := by decide +kernel
theorem d_K_init_86 : decode md_K_init.2.1 86 = .ok (.putfield 51, 3) := by decide +kernel
theorem d_K_init_89 : decode md_K_init.2.1 89 = .ok (.aload_n 0, 1) := by decide +kernel
theorem d_K_init_90 : decode md_K_init.2.1 90 = .ok (.iconst 0, 1) := by decide +kernel
theorem d_K_init_91 : decode md_K_init.2.1 91 = .ok (.putfield 54, 3) := by decide +kernel
theorem d_K_init_94 : decode md_K_init.2.1 94 = .ok (.aload_n 0, 1) := by decide +kernel
theorem d_K_init_95 : decode md_K_init.2.1 95 = .ok (.iconst 0, 1) := by decide +kernel
theorem d_K_init_96 : decode md_K_init.2.1 96 = .ok (.putfield 57, 3) := by decide +kernel
theorem d_K_init_99 : decode md_K_init.2.1 99 = .ok (.aload_n 0, 1) := by decide +kernel
theorem d_K_init_100 : decode md_K_init.2.1 100 = .ok (.iconst 0, 1) := by decide +kernel
theorem d_K_init_101 : decode md_K_init.2.1 101 = .ok (.putfield 60, 3) := by decide +kernel
theorem d_K_init_104 : decode md_K_init.2.1 104 = .ok (.aload_n 0, 1) := by decide +kernel
theorem d_K_init_105 : decode md_K_init.2.1 105 = .ok (.iconst 0, 1) := by decide +kernel
theorem d_K_init_106 : decode md_K_init.2.1 106 = .ok (.putfield 63, 3) := by decide +kernel
theorem d_K_init_109 : decode md_K_init.2.1 109 = .ok (.aload_n 0, 1) := by decide +kernel
theorem d_K_init_110 : decode md_K_init.2.1 110 = .ok (.iconst 0, 1) := by decide +kernel
theorem d_K_init_111 : decode md_K_init.2.1 111 = .ok (.putfield 66, 3) := by decide +kernel
theorem d_K_init_114 : decode md_K_init.2.1 114 = .ok (.aload_n 0, 1) := by decide +kernel
theorem d_K_init_115 : decode md_K_init.2.1 115 = .ok (.iload_n 1, 1) := by decide +kernel
theorem d_K_init_116 : decode md_K_init.2.1 116 = .ok (.invokestatic 69, 3) := by decide +kernel
theorem d_K_init_119 : decode md_K_init.2.1 119 = .ok (.putfield 73, 3) := by decide +kernel
theorem d_K_init_122 : decode md_K_init.2.1 122 = .ok (.aload_n 0, 1) := by decide +kernel
theorem d_K_init_123 : decode md_K_init.2.1 123 = .ok (.iload_n 2, 1) := by decide +kernel
theorem d_K_init_124 : decode md_K_init.2.1 124 = .ok (.invokestatic 69, 3) := by decide +kernel
theorem d_K_init_127 : decode md_K_init.2.1 127 = .ok (.putfield 76, 3) := by decide +kernel
theorem d_K_init_130 : decode md_K_init.2.1 130 = .ok (.aload_n 0, 1) := by decide +kernel
theorem d_K_init_131 : decode md_K_init.2.1 131 = .ok (.iload_n 3, 1) := by decide +kernel
theorem d_K_init_132 : decode md_K_init.2.1 132 = .ok (.invokestatic 69, 3) := by decide +kernel
theorem d_K_init_135 : decode md_K_init.2.1 135 = .ok (.putfield 79, 3) := by decide +kernel
theorem d_K_init_138 : decode md_K_init.2.1 138 = .ok (.aload_n 0, 1) := by decide +kernel
theorem d_K_init_139 : decode md_K_init.2.1 139 = .ok (.iload 4, 2) := by decide +kernel
theorem d_K_init_141 : decode md_K_init.2.1 141 = .ok (.invokestatic 69, 3) := by decide +kernel
theorem d_K_init_144 : decode md_K_init.2.1 144 = .ok (.putfield 82, 3) := by decide +kernel
theorem d_K_init_147 : decode md_K_init.2.1 147 = .ok (.return_, 1) := by decide +kernel
theorem d_S_init_0 : decode md_S_init.2.1 0 = .ok (.aload_n 0, 1) := by decide +kernel
theorem d_S_init_1 : decode md_S_init.2.1 1 = .ok (.invokespecial 3, 3) := by decide +kernel
theorem d_S_init_4 : decode md_S_init.2.1 4 = .ok (.aload_n 0, 1) := by decide +kernel
theorem d_S_init_5 : decode md_S_init.2.1 5 = .ok (.sipush 512, 3) := by decide +kernel
theorem d_S_init_8 : decode md_S_init.2.1 8 = .ok (.newarray .long, 2) := by decide +kernel
theorem d_S_init_10 : decode md_S_init.2.1 10 = .ok (.putfield 9, 3) := by decide +kernel
theorem d_S_init_13 : decode md_S_init.2.1 13 = .ok (.aload_n 0, 1) := by decide +kernel
theorem d_S_init_14 : decode md_S_init.2.1 14 = .ok (.iconst 0, 1) := by decide +kernel
theorem d_S_init_15 : decode md_S_init.2.1 15 = .ok (.putfield 15, 3) := by decide +kernel
theorem d_S_init_18 : decode md_S_init.2.1 18 = .ok (.return_, 1) := by decide +kernel
theorem d_T_init_0 : decode md_T_init.2.1 0 = .ok (.aload_n 0, 1) := by decide +kernel
theorem d_T_init_1 : decode md_T_init.2.1 1 = .ok (.invokespecial 3, 3) := by decide +kernel
theorem d_T_init_4 : decode md_T_init.2.1 4 = .ok (.aload_n 0, 1) := by decide +kernel
theorem d_T_init_5 : decode md_T_init.2.1 5 = .ok (.iconst 0, 1) := by decide +kernel
theorem d_T_init_6 : decode md_T_init.2.1 6 = .ok (.putfield 9, 3) := by decide +kernel
theorem d_T_init_9 : decode md_T_init.2.1 9 = .ok (.aload_n 0, 1) := by decide +kernel
theorem d_T_init_10 : decode md_T_init.2.1 10 = .ok (.iload_n 1, 1) := by decide +kernel
theorem d_T_init_11 : decode md_T_init.2.1 11 = .ok (.putfield 15, 3) := by decide +kernel
theorem d_T_init_14 : decode md_T_init.2.1 14 = .ok (.aload_n 0, 1) := by decide +kernel
theorem d_T_init_15 : decode md_T_init.2.1 15 = .ok (.iload_n 2, 1) := by decide +kernel
theorem d_T_init_16 : decode md_T_init.2.1 16 = .ok (.putfield 18, 3) := by decide +kernel
theorem d_T_init_19 : decode md_T_init.2.1 19 = .ok (.aload_n 0, 1) := by decide +kernel
theorem d_T_init_20 : decode md_T_init.2.1 20 = .ok (.iload_n 1, 1) := by decide +kernel
theorem d_T_init_21 : decode md_T_init.2.1 21 = .ok (.iload_n 2, 1) := by decide +kernel
theorem d_T_init_22 : decode md_T_init.2.1 22 = .ok (.imul, 1) := by decide +kernel
theorem d_T_init_23 : decode md_T_init.2.1 23 = .ok (.newarray .long, 2) := by decide +kernel
theorem d_T_init_25 : decode md_T_init.2.1 25 = .ok (.putfield 21, 3) := by decide +kernel
theorem d_T_init_28 : decode md_T_init.2.1 28 = .ok (.return_, 1) := by decide +kernel
theorem d_K_withinSettings_0 : decode md_K_withinSettings.2.1 0 = .ok (.iconst 0, 1) := by decide +kernel
theorem d_K_withinSettings_1 : decode md_K_withinSettings.2.1 1 = .ok (.ldc_w 258, 3) := by decide +kernel
theorem d_K_withinSettings_4 : decode md_K_withinSettings.2.1 4 = .ok (.iload_n 0, 1) := by decide +kernel
theorem d_K_withinSettings_5 : decode md_K_withinSettings.2.1 5 = .ok (.invokestatic 259, 3) := by decide +kernel
theorem d_K_withinSettings_8 : decode md_K_withinSettings.2.1 8 = .ok (.invokestatic 265, 3) := by decide +kernel
theorem d_K_withinSettings_11 : decode md_K_withinSettings.2.1 11 = .ok (.ireturn, 1) := by decide +kernel
theorem d_K_fold_0 : decode md_K_fold.2.1 0 = .ok (.iload_n 1, 1) := by decide +kernel
theorem d_K_fold_1 : decode md_K_fold.2.1 1 = .ok (.ifCond .lt 9, 3) := by decide +kernel
theorem d_K_fold_4 : decode md_K_fold.2.1 4 = .ok (.iload_n 1, 1) := by decide +kernel
theorem d_K_fold_5 : decode md_K_fold.2.1 5 = .ok (.bipush 8, 2) := by decide +kernel
theorem d_K_fold_7 : decode md_K_fold.2.1 7 = .ok (.if_icmp .le 13, 3) := by decide +kernel
theorem d_K_fold_10 : decode md_K_fold.2.1 10 = .ok (.new 85, 3) := by decide +kernel
theorem d_K_fold_13 : decode md_K_fold.2.1 13 = .ok (.dup, 1) := by decide +kernel
theorem d_K_fold_14 : decode md_K_fold.2.1 14 = .ok (.ldc 87, 2) := by decide +kernel
theorem d_K_fold_16 : decode md_K_fold.2.1 16 = .ok (.invokespecial 89, 3) := by decide +kernel
theorem d_K_fold_19 : decode md_K_fold.2.1 19 = .ok (.athrow, 1) := by decide +kernel
theorem d_K_fold_20 : decode md_K_fold.2.1 20 = .ok (.aload_n 0, 1) := by decide +kernel
theorem d_K_fold_21 : decode md_K_fold.2.1 21 = .ok (.getfield 10, 3) := by decide +kernel
theorem d_K_fold_24 : decode md_K_fold.2.1 24 = .ok (.invokevirtual 92, 3) := by decide +kernel
theorem d_K_fold_27 : decode md_K_fold.2.1 27 = .ok (.bipush 6, 2) := by decide +kernel
theorem d_K_fold_29 : decode md_K_fold.2.1 29 = .ok (.if_icmp .lt 13, 3) := by decide +kernel
theorem d_K_fold_32 : decode md_K_fold.2.1 32 = .ok (.new 96, 3) := by decide +kernel
theorem d_K_fold_35 : decode md_K_fold.2.1 35 = .ok (.dup, 1) := by decide +kernel
theorem d_K_fold_36 : decode md_K_fold.2.1 36 = .ok (.ldc 98, 2) := by decide +kernel
theorem d_K_fold_38 : decode md_K_fold.2.1 38 = .ok (.invokespecial 100, 3) := by decide +kernel
theorem d_K_fold_41 : decode md_K_fold.2.1 41 = .ok (.athrow, 1) := by decide +kernel
theorem d_K_fold_42 : decode md_K_fold.2.1 42 = .ok (.aload_n 0, 1) := by decide +kernel
theorem d_K_fold_43 : decode md_K_fold.2.1 43 = .ok (.getfield 16, 3) := by decide +kernel
theorem d_K_fold_46 : decode md_K_fold.2.1 46 = .ok (.invokevirtual 101, 3) := by decide +kernel
theorem d_K_fold_49 : decode md_K_fold.2.1 49 = .ok (.ifCond .ne 13, 3) := by decide +kernel
theorem d_K_fold_52 : decode md_K_fold.2.1 52 = .ok (.new 96, 3) := by decide +kernel
theorem d_K_fold_55 : decode md_K_fold.2.1 55 = .ok (.dup, 1) := by decide +kernel
theorem d_K_fold_56 : decode md_K_fold.2.1 56 = .ok (.ldc 105, 2) := by decide +kernel
theorem d_K_fold_58 : decode md_K_fold.2.1 58 = .ok (.invokespecial 100, 3) := by decide +kernel
theorem d_K_fold_61 : decode md_K_fold.2.1 61 = .ok (.athrow, 1) := by decide +kernel
theorem d_K_fold_62 : decode md_K_fold.2.1 62 = .ok (.aload_n 0, 1) := by decide +kernel
theorem d_K_fold_63 : decode md_K_fold.2.1 63 = .ok (.getfield 10, 3) := by decide +kernel
theorem d_K_fold_66 : decode md_K_fold.2.1 66 = .ok (.new 107, 3) := by decide +kernel
theorem d_K_fold_69 : decode md_K_fold.2.1 69 = .ok (.dup, 1) := by decide +kernel
theorem d_K_fold_70 : decode md_K_fold.2.1 70 = .ok (.iload_n 1, 1) := by decide +kernel
theorem d_K_fold_71 : decode md_K_fold.2.1 71 = .ok (.lload_n 2, 1) := by decide +kernel
theorem d_K_fold_72 : decode md_K_fold.2.1 72 = .ok (.lload 4, 2) := by decide +kernel
theorem d_K_fold_74 : decode md_K_fold.2.1 74 = .ok (.invokespecial 109, 3) := by decide +kernel
theorem d_K_fold_77 : decode md_K_fold.2.1 77 = .ok (.invokevirtual 112, 3) := by decide +kernel
theorem d_K_fold_80 : decode md_K_fold.2.1 80 = .ok (.pop, 1) := by decide +kernel
theorem d_K_fold_81 : decode md_K_fold.2.1 81 = .ok (.aload_n 0, 1) := by decide +kernel
theorem d_K_fold_82 : decode md_K_fold.2.1 82 = .ok (.getfield 10, 3) := by decide +kernel
theorem d_K_fold_85 : decode md_K_fold.2.1 85 = .ok (.invokevirtual 92, 3) := by decide +kernel
theorem d_K_fold_88 : decode md_K_fold.2.1 88 = .ok (.iconst 1, 1) := by decide +kernel
theorem d_K_fold_89 : decode md_K_fold.2.1 89 = .ok (.isub, 1) := by decide +kernel
theorem d_K_fold_90 : decode md_K_fold.2.1 90 = .ok (.ireturn, 1) := by decide +kernel
theorem d_F_init_0 : decode md_F_init.2.1 0 = .ok (.aload_n 0, 1) := by decide +kernel
theorem d_F_init_1 : decode md_F_init.2.1 1 = .ok (.invokespecial 3, 3) := by decide +kernel
theorem d_F_init_4 : decode md_F_init.2.1 4 = .ok (.aload_n 0, 1) := by decide +kernel
theorem d_F_init_5 : decode md_F_init.2.1 5 = .ok (.iconst 0, 1) := by decide +kernel
theorem d_F_init_6 : decode md_F_init.2.1 6 = .ok (.putfield 9, 3) := by decide +kernel
theorem d_F_init_9 : decode md_F_init.2.1 9 = .ok (.aload_n 0, 1) := by decide +kernel
theorem d_F_init_10 : decode md_F_init.2.1 10 = .ok (.iconst 4, 1) := by decide +kernel
theorem d_F_init_11 : decode md_F_init.2.1 11 = .ok (.newarray .long, 2) := by decide +kernel
theorem d_F_init_13 : decode md_F_init.2.1 13 = .ok (.putfield 15, 3) := by decide +kernel
theorem d_F_init_16 : decode md_F_init.2.1 16 = .ok (.aload_n 0, 1) := by decide +kernel
theorem d_F_init_17 : decode md_F_init.2.1 17 = .ok (.iload_n 1, 1) := by decide +kernel
theorem d_F_init_18 : decode md_F_init.2.1 18 = .ok (.putfield 19, 3) := by decide +kernel
theorem d_F_init_21 : decode md_F_init.2.1 21 = .ok (.aload_n 0, 1) := by decide +kernel
theorem d_F_init_22 : decode md_F_init.2.1 22 = .ok (.lload_n 2, 1) := by decide +kernel
theorem d_F_init_23 : decode md_F_init.2.1 23 = .ok (.putfield 22, 3) := by decide +kernel
theorem d_F_init_26 : decode md_F_init.2.1 26 = .ok (.aload_n 0, 1) := by decide +kernel
theorem d_F_init_27 : decode md_F_init.2.1 27 = .ok (.lload 4, 2) := by decide +kernel
theorem d_F_init_29 : decode md_F_init.2.1 29 = .ok (.putfield 26, 3) := by decide +kernel
theorem d_F_init_32 : decode md_F_init.2.1 32 = .ok (.return_, 1) := by decide +kernel
theorem d_K_failsAt_0 : decode md_K_failsAt.2.1 0 = .ok (.aload_n 0, 1) := by decide +kernel
theorem d_K_failsAt_1 : decode md_K_failsAt.2.1 1 = .ok (.iload_n 1, 1) := by decide +kernel
theorem d_K_failsAt_2 : decode md_K_failsAt.2.1 2 = .ok (.invokevirtual 116, 3) := by decide +kernel
theorem d_K_failsAt_5 : decode md_K_failsAt.2.1 5 = .ok (.ifCond .ne 13, 3) := by decide +kernel
theorem d_K_failsAt_8 : decode md_K_failsAt.2.1 8 = .ok (.new 120, 3) := by decide +kernel
theorem d_K_failsAt_11 : decode md_K_failsAt.2.1 11 = .ok (.dup, 1) := by decide +kernel
theorem d_K_failsAt_12 : decode md_K_failsAt.2.1 12 = .ok (.ldc 122, 2) := by decide +kernel
theorem d_K_failsAt_14 : decode md_K_failsAt.2.1 14 = .ok (.invokespecial 124, 3) := by decide +kernel
theorem d_K_failsAt_17 : decode md_K_failsAt.2.1 17 = .ok (.athrow, 1) := by decide +kernel
theorem d_K_failsAt_18 : decode md_K_failsAt.2.1 18 = .ok (.aload_n 0, 1) := by decide +kernel
theorem d_K_failsAt_19 : decode md_K_failsAt.2.1 19 = .ok (.getfield 10, 3) := by decide +kernel
theorem d_K_failsAt_22 : decode md_K_failsAt.2.1 22 = .ok (.iload_n 1, 1) := by decide +kernel
theorem d_K_failsAt_23 : decode md_K_failsAt.2.1 23 = .ok (.invokevirtual 125, 3) := by decide +kernel
theorem d_K_failsAt_26 : decode md_K_failsAt.2.1 26 = .ok (.checkcast 107, 3) := by decide +kernel
theorem d_K_failsAt_29 : decode md_K_failsAt.2.1 29 = .ok (.astore 4, 2) := by decide +kernel
theorem d_K_failsAt_31 : decode md_K_failsAt.2.1 31 = .ok (.aload 4, 2) := by decide +kernel
theorem d_K_failsAt_33 : decode md_K_failsAt.2.1 33 = .ok (.getfield 129, 3) := by decide +kernel
theorem d_K_failsAt_36 : decode md_K_failsAt.2.1 36 = .ok (.iconst 4, 1) := by decide +kernel
theorem d_K_failsAt_37 : decode md_K_failsAt.2.1 37 = .ok (.if_icmp .lt 13, 3) := by decide +kernel
theorem d_K_failsAt_40 : decode md_K_failsAt.2.1 40 = .ok (.new 96, 3) := by decide +kernel
theorem d_K_failsAt_43 : decode md_K_failsAt.2.1 43 = .ok (.dup, 1) := by decide +kernel
theorem d_K_failsAt_44 : decode md_K_failsAt.2.1 44 = .ok (.ldc 132, 2) := by decide +kernel
theorem d_K_failsAt_46 : decode md_K_failsAt.2.1 46 = .ok (.invokespecial 100, 3) := by decide +kernel
theorem d_K_failsAt_49 : decode md_K_failsAt.2.1 49 = .ok (.athrow, 1) := by decide +kernel
theorem d_K_failsAt_50 : decode md_K_failsAt.2.1 50 = .ok (.aload 4, 2) := by decide +kernel
theorem d_K_failsAt_52 : decode md_K_failsAt.2.1 52 = .ok (.lload_n 2, 1) := by decide +kernel
theorem d_K_failsAt_53 : decode md_K_failsAt.2.1 53 = .ok (.invokevirtual 134, 3) := by decide +kernel
theorem d_K_failsAt_56 : decode md_K_failsAt.2.1 56 = .ok (.ifCond .eq 13, 3) := by decide +kernel
theorem d_K_failsAt_59 : decode md_K_failsAt.2.1 59 = .ok (.new 96, 3) := by decide +kernel
theorem d_K_failsAt_62 : decode md_K_failsAt.2.1 62 = .ok (.dup, 1) := by decide +kernel
theorem d_K_failsAt_63 : decode md_K_failsAt.2.1 63 = .ok (.ldc 138, 2) := by decide +kernel
theorem d_K_failsAt_65 : decode md_K_failsAt.2.1 65 = .ok (.invokespecial 100, 3) := by decide +kernel
theorem d_K_failsAt_68 : decode md_K_failsAt.2.1 68 = .ok (.athrow, 1) := by decide +kernel
theorem d_K_failsAt_69 : decode md_K_failsAt.2.1 69 = .ok (.aload 4, 2) := by decide +kernel
theorem d_K_failsAt_71 : decode md_K_failsAt.2.1 71 = .ok (.lload_n 2, 1) := by decide +kernel
theorem d_K_failsAt_72 : decode md_K_failsAt.2.1 72 = .ok (.invokevirtual 140, 3) := by decide +kernel
theorem d_K_failsAt_75 : decode md_K_failsAt.2.1 75 = .ok (.aload 4, 2) := by decide +kernel
theorem d_K_failsAt_77 : decode md_K_failsAt.2.1 77 = .ok (.getfield 129, 3) := by decide +kernel
theorem d_K_failsAt_80 : decode md_K_failsAt.2.1 80 = .ok (.ireturn, 1) := by decide +kernel
theorem d_K_isFold_0 : decode md_K_isFold.2.1 0 = .ok (.iload_n 1, 1) := by decide +kernel
theorem d_K_isFold_1 : decode md_K_isFold.2.1 1 = .ok (.ifCond .lt 18, 3) := by decide +kernel
theorem d_K_isFold_4 : decode md_K_isFold.2.1 4 = .ok (.iload_n 1, 1) := by decide +kernel
theorem d_K_isFold_5 : decode md_K_isFold.2.1 5 = .ok (.aload_n 0, 1) := by decide +kernel
theorem d_K_isFold_6 : decode md_K_isFold.2.1 6 = .ok (.getfield 10, 3) := by decide +kernel
theorem d_K_isFold_9 : decode md_K_isFold.2.1 9 = .ok (.invokevirtual 92, 3) := by decide +kernel
theorem d_K_isFold_12 : decode md_K_isFold.2.1 12 = .ok (.if_icmp .ge 7, 3) := by decide +kernel
theorem d_K_isFold_15 : decode md_K_isFold.2.1 15 = .ok (.iconst 1, 1) := by decide +kernel
theorem d_K_isFold_16 : decode md_K_isFold.2.1 16 = .ok (.goto 4, 3) := by decide +kernel
theorem d_K_isFold_19 : decode md_K_isFold.2.1 19 = .ok (.iconst 0, 1) := by decide +kernel
theorem d_K_isFold_20 : decode md_K_isFold.2.1 20 = .ok (.ireturn, 1) := by decide +kernel
theorem d_F_isFailing_0 : decode md_F_isFailing.2.1 0 = .ok (.iconst 0, 1) := by decide +kernel
theorem d_F_isFailing_1 : decode md_F_isFailing.2.1 1 = .ok (.istore_n 3, 1) := by decide +kernel
theorem d_F_isFailing_2 : decode md_F_isFailing.2.1 2 = .ok (.iload_n 3, 1) := by decide +kernel
theorem d_F_isFailing_3 : decode md_F_isFailing.2.1 3 = .ok (.aload_n 0, 1) := by decide +kernel
theorem d_F_isFailing_4 : decode md_F_isFailing.2.1 4 = .ok (.getfield 9, 3) := by decide +kernel
theorem d_F_isFailing_7 : decode md_F_isFailing.2.1 7 = .ok (.if_icmp .ge 22, 3) := by decide +kernel
theorem d_F_isFailing_10 : decode md_F_isFailing.2.1 10 = .ok (.aload_n 0, 1) := by decide +kernel
theorem d_F_isFailing_11 : decode md_F_isFailing.2.1 11 = .ok (.getfield 15, 3) := by decide +kernel
theorem d_F_isFailing_14 : decode md_F_isFailing.2.1 14 = .ok (.iload_n 3, 1) := by decide +kernel
theorem d_F_isFailing_15 : decode md_F_isFailing.2.1 15 = .ok (.laload, 1) := by decide +kernel
theorem d_F_isFailing_16 : decode md_F_isFailing.2.1 16 = .ok (.lload_n 1, 1) := by decide +kernel
theorem d_F_isFailing_17 : decode md_F_isFailing.2.1 17 = .ok (.lcmp, 1) := by decide +kernel
theorem d_F_isFailing_18 : decode md_F_isFailing.2.1 18 = .ok (.ifCond .ne 5, 3) := by decide +kernel
theorem d_F_isFailing_21 : decode md_F_isFailing.2.1 21 = .ok (.iconst 1, 1) := by decide +kernel
theorem d_F_isFailing_22 : decode md_F_isFailing.2.1 22 = .ok (.ireturn, 1) := by decide +kernel
theorem d_F_isFailing_23 : decode md_F_isFailing.2.1 23 = .ok (.iinc 3 1, 3) := by decide +kernel
theorem d_F_isFailing_26 : decode md_F_isFailing.2.1 26 = .ok (.goto (-24), 3) := by decide +kernel
theorem d_F_isFailing_29 : decode md_F_isFailing.2.1 29 = .ok (.iconst 0, 1) := by decide +kernel
theorem d_F_isFailing_30 : decode md_F_isFailing.2.1 30 = .ok (.ireturn, 1) := by decide +kernel
theorem d_F_addFailing_0 : decode md_F_addFailing.2.1 0 = .ok (.aload_n 0, 1) := by decide +kernel
theorem d_F_addFailing_1 : decode md_F_addFailing.2.1 1 = .ok (.getfield 9, 3) := by decide +kernel
theorem d_F_addFailing_4 : decode md_F_addFailing.2.1 4 = .ok (.iconst 4, 1) := by decide +kernel
theorem d_F_addFailing_5 : decode md_F_addFailing.2.1 5 = .ok (.if_icmp .ge 23, 3) := by decide +kernel
theorem d_F_addFailing_8 : decode md_F_addFailing.2.1 8 = .ok (.aload_n 0, 1) := by decide +kernel
theorem d_F_addFailing_9 : decode md_F_addFailing.2.1 9 = .ok (.getfield 15, 3) := by decide +kernel
theorem d_F_addFailing_12 : decode md_F_addFailing.2.1 12 = .ok (.aload_n 0, 1) := by decide +kernel
theorem d_F_addFailing_13 : decode md_F_addFailing.2.1 13 = .ok (.getfield 9, 3) := by decide +kernel
theorem d_F_addFailing_16 : decode md_F_addFailing.2.1 16 = .ok (.lload_n 1, 1) := by decide +kernel
theorem d_F_addFailing_17 : decode md_F_addFailing.2.1 17 = .ok (.lastore, 1) := by decide +kernel
theorem d_F_addFailing_18 : decode md_F_addFailing.2.1 18 = .ok (.aload_n 0, 1) := by decide +kernel
theorem d_F_addFailing_19 : decode md_F_addFailing.2.1 19 = .ok (.dup, 1) := by decide +kernel
theorem d_F_addFailing_20 : decode md_F_addFailing.2.1 20 = .ok (.getfield 9, 3) := by decide +kernel
theorem d_F_addFailing_23 : decode md_F_addFailing.2.1 23 = .ok (.iconst 1, 1) := by decide +kernel
theorem d_F_addFailing_24 : decode md_F_addFailing.2.1 24 = .ok (.iadd, 1) := by decide +kernel
theorem d_F_addFailing_25 : decode md_F_addFailing.2.1 25 = .ok (.putfield 9, 3) := by decide +kernel
theorem d_F_addFailing_28 : decode md_F_addFailing.2.1 28 = .ok (.return_, 1) := by decide +kernel
theorem d_K_rule_0 : decode md_K_rule.2.1 0 = .ok (.iload_n 1, 1) := by decide +kernel
theorem d_K_rule_1 : decode md_K_rule.2.1 1 = .ok (.ifCond .lt 8, 3) := by decide +kernel
theorem d_K_rule_4 : decode md_K_rule.2.1 4 = .ok (.iload_n 1, 1) := by decide +kernel
theorem d_K_rule_5 : decode md_K_rule.2.1 5 = .ok (.iconst 1, 1) := by decide +kernel
theorem d_K_rule_6 : decode md_K_rule.2.1 6 = .ok (.if_icmp .le 13, 3) := by decide +kernel
theorem d_K_rule_9 : decode md_K_rule.2.1 9 = .ok (.new 85, 3) := by decide +kernel
theorem d_K_rule_12 : decode md_K_rule.2.1 12 = .ok (.dup, 1) := by decide +kernel
theorem d_K_rule_13 : decode md_K_rule.2.1 13 = .ok (.ldc 144, 2) := by decide +kernel
theorem d_K_rule_15 : decode md_K_rule.2.1 15 = .ok (.invokespecial 89, 3) := by decide +kernel
theorem d_K_rule_18 : decode md_K_rule.2.1 18 = .ok (.athrow, 1) := by decide +kernel
theorem d_K_rule_19 : decode md_K_rule.2.1 19 = .ok (.iload_n 2, 1) := by decide +kernel
theorem d_K_rule_20 : decode md_K_rule.2.1 20 = .ok (.ifCond .lt 8, 3) := by decide +kernel
theorem d_K_rule_23 : decode md_K_rule.2.1 23 = .ok (.iload_n 2, 1) := by decide +kernel
theorem d_K_rule_24 : decode md_K_rule.2.1 24 = .ok (.iconst 2, 1) := by decide +kernel
theorem d_K_rule_25 : decode md_K_rule.2.1 25 = .ok (.if_icmp .le 13, 3) := by decide +kernel
theorem d_K_rule_28 : decode md_K_rule.2.1 28 = .ok (.new 85, 3) := by decide +kernel
theorem d_K_rule_31 : decode md_K_rule.2.1 31 = .ok (.dup, 1) := by decide +kernel
theorem d_K_rule_32 : decode md_K_rule.2.1 32 = .ok (.ldc 146, 2) := by decide +kernel
theorem d_K_rule_34 : decode md_K_rule.2.1 34 = .ok (.invokespecial 89, 3) := by decide +kernel
theorem d_K_rule_37 : decode md_K_rule.2.1 37 = .ok (.athrow, 1) := by decide +kernel
theorem d_K_rule_38 : decode md_K_rule.2.1 38 = .ok (.iload_n 1, 1) := by decide +kernel
theorem d_K_rule_39 : decode md_K_rule.2.1 39 = .ok (.ifCond .ne 16, 3) := by decide +kernel
theorem d_K_rule_42 : decode md_K_rule.2.1 42 = .ok (.aload_n 0, 1) := by decide +kernel
theorem d_K_rule_43 : decode md_K_rule.2.1 43 = .ok (.getfield 38, 3) := by decide +kernel
theorem d_K_rule_46 : decode md_K_rule.2.1 46 = .ok (.istore_n 3, 1) := by decide +kernel
theorem d_K_rule_47 : decode md_K_rule.2.1 47 = .ok (.aload_n 0, 1) := by decide +kernel
theorem d_K_rule_48 : decode md_K_rule.2.1 48 = .ok (.iload_n 2, 1) := by decide +kernel
theorem d_K_rule_49 : decode md_K_rule.2.1 49 = .ok (.putfield 38, 3) := by decide +kernel
theorem d_K_rule_52 : decode md_K_rule.2.1 52 = .ok (.goto 13, 3) := by decide +kernel
theorem d_K_rule_55 : decode md_K_rule.2.1 55 = .ok (.aload_n 0, 1) := by decide +kernel
theorem d_K_rule_56 : decode md_K_rule.2.1 56 = .ok (.getfield 42, 3) := by decide +kernel
theorem d_K_rule_59 : decode md_K_rule.2.1 59 = .ok (.istore_n 3, 1) := by decide +kernel
theorem d_K_rule_60 : decode md_K_rule.2.1 60 = .ok (.aload_n 0, 1) := by decide +kernel
theorem d_K_rule_61 : decode md_K_rule.2.1 61 = .ok (.iload_n 2, 1) := by decide +kernel
theorem d_K_rule_62 : decode md_K_rule.2.1 62 = .ok (.putfield 42, 3) := by decide +kernel
theorem d_K_rule_65 : decode md_K_rule.2.1 65 = .ok (.iload_n 3, 1) := by decide +kernel
theorem d_K_rule_66 : decode md_K_rule.2.1 66 = .ok (.ireturn, 1) := by decide +kernel
theorem d_K_row_0 : decode md_K_row.2.1 0 = .ok (.lload_n 3, 1) := by decide +kernel
theorem d_K_row_1 : decode md_K_row.2.1 1 = .ok (.lconst 0, 1) := by decide +kernel
theorem d_K_row_2 : decode md_K_row.2.1 2 = .ok (.lcmp, 1) := by decide +kernel
theorem d_K_row_3 : decode md_K_row.2.1 3 = .ok (.ifCond .lt 11, 3) := by decide +kernel
theorem d_K_row_6 : decode md_K_row.2.1 6 = .ok (.lload_n 3, 1) := by decide +kernel
theorem d_K_row_7 : decode md_K_row.2.1 7 = .ok (.ldc2_w 148, 3) := by decide +kernel
theorem d_K_row_10 : decode md_K_row.2.1 10 = .ok (.lcmp, 1) := by decide +kernel
theorem d_K_row_11 : decode md_K_row.2.1 11 = .ok (.ifCond .le 13, 3) := by decide +kernel
theorem d_K_row_14 : decode md_K_row.2.1 14 = .ok (.new 85, 3) := by decide +kernel
theorem d_K_row_17 : decode md_K_row.2.1 17 = .ok (.dup, 1) := by decide +kernel
theorem d_K_row_18 : decode md_K_row.2.1 18 = .ok (.ldc 150, 2) := by decide +kernel
theorem d_K_row_20 : decode md_K_row.2.1 20 = .ok (.invokespecial 89, 3) := by decide +kernel
theorem d_K_row_23 : decode md_K_row.2.1 23 = .ok (.athrow, 1) := by decide +kernel
theorem d_K_row_24 : decode md_K_row.2.1 24 = .ok (.aload_n 0, 1) := by decide +kernel
theorem d_K_row_25 : decode md_K_row.2.1 25 = .ok (.getfield 10, 3) := by decide +kernel
theorem d_K_row_28 : decode md_K_row.2.1 28 = .ok (.invokevirtual 101, 3) := by decide +kernel
theorem d_K_row_31 : decode md_K_row.2.1 31 = .ok (.ifCond .eq 13, 3) := by decide +kernel
theorem d_K_row_34 : decode md_K_row.2.1 34 = .ok (.new 96, 3) := by decide +kernel
theorem d_K_row_37 : decode md_K_row.2.1 37 = .ok (.dup, 1) := by decide +kernel
theorem d_K_row_38 : decode md_K_row.2.1 38 = .ok (.ldc 152, 2) := by decide +kernel
theorem d_K_row_40 : decode md_K_row.2.1 40 = .ok (.invokespecial 100, 3) := by decide +kernel
theorem d_K_row_43 : decode md_K_row.2.1 43 = .ok (.athrow, 1) := by decide +kernel
theorem d_K_row_44 : decode md_K_row.2.1 44 = .ok (.aload_n 0, 1) := by decide +kernel
theorem d_K_row_45 : decode md_K_row.2.1 45 = .ok (.getfield 22, 3) := by decide +kernel
theorem d_K_row_48 : decode md_K_row.2.1 48 = .ok (.lload_n 1, 1) := by decide +kernel
theorem d_K_row_49 : decode md_K_row.2.1 49 = .ok (.invokevirtual 154, 3) := by decide +kernel
theorem d_K_row_52 : decode md_K_row.2.1 52 = .ok (.ifCond .eq 13, 3) := by decide +kernel
theorem d_K_row_55 : decode md_K_row.2.1 55 = .ok (.new 96, 3) := by decide +kernel
theorem d_K_row_58 : decode md_K_row.2.1 58 = .ok (.dup, 1) := by decide +kernel
theorem d_K_row_59 : decode md_K_row.2.1 59 = .ok (.ldc 157, 2) := by decide +kernel
theorem d_K_row_61 : decode md_K_row.2.1 61 = .ok (.invokespecial 100, 3) := by decide +kernel
theorem d_K_row_64 : decode md_K_row.2.1 64 = .ok (.athrow, 1) := by decide +kernel
theorem d_K_row_65 : decode md_K_row.2.1 65 = .ok (.aload_n 0, 1) := by decide +kernel
theorem d_K_row_66 : decode md_K_row.2.1 66 = .ok (.lload_n 1, 1) := by decide +kernel
theorem d_K_row_67 : decode md_K_row.2.1 67 = .ok (.lload_n 3, 1) := by decide +kernel
theorem d_K_row_68 : decode md_K_row.2.1 68 = .ok (.lload 5, 2) := by decide +kernel
theorem d_K_row_70 : decode md_K_row.2.1 70 = .ok (.invokevirtual 159, 3) := by decide +kernel
theorem d_K_row_73 : decode md_K_row.2.1 73 = .ok (.istore 7, 2) := by decide +kernel
theorem d_K_row_75 : decode md_K_row.2.1 75 = .ok (.iload 7, 2) := by decide +kernel
theorem d_K_row_77 : decode md_K_row.2.1 77 = .ok (.ifCond .ne 21, 3) := by decide +kernel
theorem d_K_row_80 : decode md_K_row.2.1 80 = .ok (.aload_n 0, 1) := by decide +kernel
theorem d_K_row_81 : decode md_K_row.2.1 81 = .ok (.lload_n 1, 1) := by decide +kernel
theorem d_K_row_82 : decode md_K_row.2.1 82 = .ok (.invokevirtual 163, 3) := by decide +kernel
theorem d_K_row_85 : decode md_K_row.2.1 85 = .ok (.ifCond .ne 13, 3) := by decide +kernel
theorem d_K_row_88 : decode md_K_row.2.1 88 = .ok (.new 96, 3) := by decide +kernel
theorem d_K_row_91 : decode md_K_row.2.1 91 = .ok (.dup, 1) := by decide +kernel
theorem d_K_row_92 : decode md_K_row.2.1 92 = .ok (.ldc 166, 2) := by decide +kernel
theorem d_K_row_94 : decode md_K_row.2.1 94 = .ok (.invokespecial 100, 3) := by decide +kernel
theorem d_K_row_97 : decode md_K_row.2.1 97 = .ok (.athrow, 1) := by decide +kernel
theorem d_K_row_98 : decode md_K_row.2.1 98 = .ok (.aload_n 0, 1) := by decide +kernel
theorem d_K_row_99 : decode md_K_row.2.1 99 = .ok (.lload_n 3, 1) := by decide +kernel
theorem d_K_row_100 : decode md_K_row.2.1 100 = .ok (.invokevirtual 168, 3) := by decide +kernel
theorem d_K_row_103 : decode md_K_row.2.1 103 = .ok (.ifCond .eq 13, 3) := by decide +kernel
theorem d_K_row_106 : decode md_K_row.2.1 106 = .ok (.aload_n 0, 1) := by decide +kernel
theorem d_K_row_107 : decode md_K_row.2.1 107 = .ok (.dup, 1) := by decide +kernel
theorem d_K_row_108 : decode md_K_row.2.1 108 = .ok (.getfield 57, 3) := by decide +kernel
theorem d_K_row_111 : decode md_K_row.2.1 111 = .ok (.iconst 1, 1) := by decide +kernel
theorem d_K_row_112 : decode md_K_row.2.1 112 = .ok (.iadd, 1) := by decide +kernel
theorem d_K_row_113 : decode md_K_row.2.1 113 = .ok (.putfield 57, 3) := by decide +kernel
theorem d_K_row_116 : decode md_K_row.2.1 116 = .ok (.iload 7, 2) := by decide +kernel
theorem d_K_row_118 : decode md_K_row.2.1 118 = .ok (.ifCond .ne 22, 3) := by decide +kernel
theorem d_K_row_121 : decode md_K_row.2.1 121 = .ok (.aload_n 0, 1) := by decide +kernel
theorem d_K_row_122 : decode md_K_row.2.1 122 = .ok (.lload_n 1, 1) := by decide +kernel
theorem d_K_row_123 : decode md_K_row.2.1 123 = .ok (.lload_n 3, 1) := by decide +kernel
theorem d_K_row_124 : decode md_K_row.2.1 124 = .ok (.lload 5, 2) := by decide +kernel
theorem d_K_row_126 : decode md_K_row.2.1 126 = .ok (.invokevirtual 171, 3) := by decide +kernel
theorem d_K_row_129 : decode md_K_row.2.1 129 = .ok (.aload_n 0, 1) := by decide +kernel
theorem d_K_row_130 : decode md_K_row.2.1 130 = .ok (.invokevirtual 175, 3) := by decide +kernel
theorem d_K_row_133 : decode md_K_row.2.1 133 = .ok (.aload_n 0, 1) := by decide +kernel
theorem d_K_row_134 : decode md_K_row.2.1 134 = .ok (.invokevirtual 178, 3) := by decide +kernel
theorem d_K_row_137 : decode md_K_row.2.1 137 = .ok (.goto 13, 3) := by decide +kernel
theorem d_K_row_140 : decode md_K_row.2.1 140 = .ok (.aload_n 0, 1) := by decide +kernel
theorem d_K_row_141 : decode md_K_row.2.1 141 = .ok (.iload 7, 2) := by decide +kernel
theorem d_K_row_143 : decode md_K_row.2.1 143 = .ok (.lload_n 1, 1) := by decide +kernel
theorem d_K_row_144 : decode md_K_row.2.1 144 = .ok (.lload_n 3, 1) := by decide +kernel
theorem d_K_row_145 : decode md_K_row.2.1 145 = .ok (.lload 5, 2) := by decide +kernel
theorem d_K_row_147 : decode md_K_row.2.1 147 = .ok (.invokevirtual 181, 3) := by decide +kernel
theorem d_K_row_150 : decode md_K_row.2.1 150 = .ok (.iload 7, 2) := by decide +kernel
theorem d_K_row_152 : decode md_K_row.2.1 152 = .ok (.ireturn, 1) := by decide +kernel
theorem d_S_has_0 : decode md_S_has.2.1 0 = .ok (.aload_n 0, 1) := by decide +kernel
theorem d_S_has_1 : decode md_S_has.2.1 1 = .ok (.lload_n 1, 1) := by decide +kernel
theorem d_S_has_2 : decode md_S_has.2.1 2 = .ok (.invokevirtual 19, 3) := by decide +kernel
theorem d_S_has_5 : decode md_S_has.2.1 5 = .ok (.iconst (-1), 1) := by decide +kernel
theorem d_S_has_6 : decode md_S_has.2.1 6 = .ok (.if_icmp .eq 7, 3) := by decide +kernel
theorem d_S_has_9 : decode md_S_has.2.1 9 = .ok (.iconst 1, 1) := by decide +kernel
theorem d_S_has_10 : decode md_S_has.2.1 10 = .ok (.goto 4, 3) := by decide +kernel
theorem d_S_has_13 : decode md_S_has.2.1 13 = .ok (.iconst 0, 1) := by decide +kernel
theorem d_S_has_14 : decode md_S_has.2.1 14 = .ok (.ireturn, 1) := by decide +kernel
theorem d_S_placeOf_0 : decode md_S_placeOf.2.1 0 = .ok (.iconst 0, 1) := by decide +kernel
theorem d_S_placeOf_1 : decode md_S_placeOf.2.1 1 = .ok (.istore_n 3, 1) := by decide +kernel
theorem d_S_placeOf_2 : decode md_S_placeOf.2.1 2 = .ok (.iload_n 3, 1) := by decide +kernel
theorem d_S_placeOf_3 : decode md_S_placeOf.2.1 3 = .ok (.aload_n 0, 1) := by decide +kernel
theorem d_S_placeOf_4 : decode md_S_placeOf.2.1 4 = .ok (.getfield 15, 3) := by decide +kernel
theorem d_S_placeOf_7 : decode md_S_placeOf.2.1 7 = .ok (.if_icmp .ge 22, 3) := by decide +kernel
theorem d_S_placeOf_10 : decode md_S_placeOf.2.1 10 = .ok (.aload_n 0, 1) := by decide +kernel
theorem d_S_placeOf_11 : decode md_S_placeOf.2.1 11 = .ok (.getfield 9, 3) := by decide +kernel
theorem d_S_placeOf_14 : decode md_S_placeOf.2.1 14 = .ok (.iload_n 3, 1) := by decide +kernel
theorem d_S_placeOf_15 : decode md_S_placeOf.2.1 15 = .ok (.laload, 1) := by decide +kernel
theorem d_S_placeOf_16 : decode md_S_placeOf.2.1 16 = .ok (.lload_n 1, 1) := by decide +kernel
theorem d_S_placeOf_17 : decode md_S_placeOf.2.1 17 = .ok (.lcmp, 1) := by decide +kernel
theorem d_S_placeOf_18 : decode md_S_placeOf.2.1 18 = .ok (.ifCond .ne 5, 3) := by decide +kernel
theorem d_S_placeOf_21 : decode md_S_placeOf.2.1 21 = .ok (.iload_n 3, 1) := by decide +kernel
theorem d_S_placeOf_22 : decode md_S_placeOf.2.1 22 = .ok (.ireturn, 1) := by decide +kernel
theorem d_S_placeOf_23 : decode md_S_placeOf.2.1 23 = .ok (.iinc 3 1, 3) := by decide +kernel
