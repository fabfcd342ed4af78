theorem d_M_init_0 : decode md_M_init.2.1 0 = .ok (.aload_n 0, 1) := by decide +kernel
theorem d_M_init_1 : decode md_M_init.2.1 1 = .ok (.invokespecial 1, 3) := by decide +kernel
theorem d_M_init_4 : decode md_M_init.2.1 4 = .ok (.aload_n 0, 1) := by decide +kernel
theorem d_M_init_5 : decode md_M_init.2.1 5 = .ok (.bipush 6, 2) := by decide +kernel
theorem d_M_init_7 : decode md_M_init.2.1 7 = .ok (.newarray .int, 2) := by decide +kernel
theorem d_M_init_9 : decode md_M_init.2.1 9 = .ok (.putfield 7, 3) := by decide +kernel
theorem d_M_init_12 : decode md_M_init.2.1 12 = .ok (.aload_n 0, 1) := by decide +kernel
theorem d_M_init_13 : decode md_M_init.2.1 13 = .ok (.bipush 6, 2) := by decide +kernel
theorem d_M_init_15 : decode md_M_init.2.1 15 = .ok (.newarray .long, 2) := by decide +kernel
theorem d_M_init_17 : decode md_M_init.2.1 17 = .ok (.putfield 13, 3) := by decide +kernel
theorem d_M_init_20 : decode md_M_init.2.1 20 = .ok (.aload_n 0, 1) := by decide +kernel
theorem d_M_init_21 : decode md_M_init.2.1 21 = .ok (.bipush 6, 2) := by decide +kernel
theorem d_M_init_23 : decode md_M_init.2.1 23 = .ok (.newarray .long, 2) := by decide +kernel
theorem d_M_init_25 : decode md_M_init.2.1 25 = .ok (.putfield 17, 3) := by decide +kernel
theorem d_M_init_28 : decode md_M_init.2.1 28 = .ok (.aload_n 0, 1) := by decide +kernel
theorem d_M_init_29 : decode md_M_init.2.1 29 = .ok (.bipush 6, 2) := by decide +kernel
theorem d_M_init_31 : decode md_M_init.2.1 31 = .ok (.newarray .int, 2) := by decide +kernel
theorem d_M_init_33 : decode md_M_init.2.1 33 = .ok (.putfield 20, 3) := by decide +kernel
theorem d_M_init_36 : decode md_M_init.2.1 36 = .ok (.aload_n 0, 1) := by decide +kernel
theorem d_M_init_37 : decode md_M_init.2.1 37 = .ok (.bipush 24, 2) := by decide +kernel
theorem d_M_init_39 : decode md_M_init.2.1 39 = .ok (.newarray .long, 2) := by decide +kernel
theorem d_M_init_41 : decode md_M_init.2.1 41 = .ok (.putfield 23, 3) := by decide +kernel
theorem d_M_init_44 : decode md_M_init.2.1 44 = .ok (.aload_n 0, 1) := by decide +kernel
theorem d_M_init_45 : decode md_M_init.2.1 45 = .ok (.bipush 30, 2) := by decide +kernel
theorem d_M_init_47 : decode md_M_init.2.1 47 = .ok (.newarray .long, 2) := by decide +kernel
theorem d_M_init_49 : decode md_M_init.2.1 49 = .ok (.putfield 26, 3) := by decide +kernel
theorem d_M_init_52 : decode md_M_init.2.1 52 = .ok (.aload_n 0, 1) := by decide +kernel
theorem d_M_init_53 : decode md_M_init.2.1 53 = .ok (.bipush 30, 2) := by decide +kernel
theorem d_M_init_55 : decode md_M_init.2.1 55 = .ok (.newarray .int, 2) := by decide +kernel
theorem d_M_init_57 : decode md_M_init.2.1 57 = .ok (.putfield 29, 3) := by decide +kernel
theorem d_M_init_60 : decode md_M_init.2.1 60 = .ok (.aload_n 0, 1) := by decide +kernel
theorem d_M_init_61 : decode md_M_init.2.1 61 = .ok (.bipush 30, 2) := by decide +kernel
theorem d_M_init_63 : decode md_M_init.2.1 63 = .ok (.newarray .int, 2) := by decide +kernel
theorem d_M_init_65 : decode md_M_init.2.1 65 = .ok (.putfield 32, 3) := by decide +kernel
theorem d_M_init_68 : decode md_M_init.2.1 68 = .ok (.aload_n 0, 1) := by decide +kernel
theorem d_M_init_69 : decode md_M_init.2.1 69 = .ok (.sipush 1860, 3) := by decide +kernel
theorem d_M_init_72 : decode md_M_init.2.1 72 = .ok (.newarray .long, 2) := by decide +kernel
theorem d_M_init_74 : decode md_M_init.2.1 74 = .ok (.putfield 35, 3) := by decide +kernel
theorem d_M_init_77 : decode md_M_init.2.1 77 = .ok (.aload_n 0, 1) := by decide +kernel
theorem d_M_init_78 : decode md_M_init.2.1 78 = .ok (.sipush 1860, 3) := by decide +kernel
theorem d_M_init_81 : decode md_M_init.2.1 81 = .ok (.newarray .long, 2) := by decide +kernel
theorem d_M_init_83 : decode md_M_init.2.1 83 = .ok (.putfield 38, 3) := by decide +kernel
theorem d_M_init_86 : decode md_M_init.2.1 86 = .ok (.aload_n 0, 1) := by decide +kernel
theorem d_M_init_87 : decode md_M_init.2.1 87 = .ok (.sipush 4200, 3) := by decide +kernel
theorem d_M_init_90 : decode md_M_init.2.1 90 = .ok (.newarray .long, 2) := by decide +kernel
theorem d_M_init_92 : decode md_M_init.2.1 92 = .ok (.putfield 41, 3) := by decide +kernel
theorem d_M_init_95 : decode md_M_init.2.1 95 = .ok (.aload_n 0, 1) := by decide +kernel
theorem d_M_init_96 : decode md_M_init.2.1 96 = .ok (.sipush 400, 3) := by decide +kernel
theorem d_M_init_99 : decode md_M_init.2.1 99 = .ok (.newarray .long, 2) := by decide +kernel
theorem d_M_init_101 : decode md_M_init.2.1 101 = .ok (.putfield 44, 3) := by decide +kernel
theorem d_M_init_104 : decode md_M_init.2.1 104 = .ok (.aload_n 0, 1) := by decide +kernel
theorem d_M_init_105 : decode md_M_init.2.1 105 = .ok (.sipush 2400, 3) := by decide +kernel
theorem d_M_init_108 : decode md_M_init.2.1 108 = .ok (.newarray .long, 2) := by decide +kernel
theorem d_M_init_110 : decode md_M_init.2.1 110 = .ok (.putfield 47, 3) := by decide +kernel
theorem d_M_init_113 : decode md_M_init.2.1 113 = .ok (.aload_n 0, 1) := by decide +kernel
theorem d_M_init_114 : decode md_M_init.2.1 114 = .ok (.aload_n 0, 1) := by decide +kernel
theorem d_M_init_115 : decode md_M_init.2.1 115 = .ok (.iload_n 1, 1) := by decide +kernel
theorem d_M_init_116 : decode md_M_init.2.1 116 = .ok (.invokevirtual 50, 3) := by decide +kernel
theorem d_M_init_119 : decode md_M_init.2.1 119 = .ok (.putfield 54, 3) := by decide +kernel
theorem d_M_init_122 : decode md_M_init.2.1 122 = .ok (.aload_n 0, 1) := by decide +kernel
theorem d_M_init_123 : decode md_M_init.2.1 123 = .ok (.aload_n 0, 1) := by decide +kernel
theorem d_M_init_124 : decode md_M_init.2.1 124 = .ok (.iload_n 2, 1) := by decide +kernel
theorem d_M_init_125 : decode md_M_init.2.1 125 = .ok (.invokevirtual 50, 3) := by decide +kernel
theorem d_M_init_128 : decode md_M_init.2.1 128 = .ok (.putfield 58, 3) := by decide +kernel
theorem d_M_init_131 : decode md_M_init.2.1 131 = .ok (.aload_n 0, 1) := by decide +kernel
theorem d_M_init_132 : decode md_M_init.2.1 132 = .ok (.aload_n 0, 1) := by decide +kernel
theorem d_M_init_133 : decode md_M_init.2.1 133 = .ok (.iload_n 3, 1) := by decide +kernel
theorem d_M_init_134 : decode md_M_init.2.1 134 = .ok (.invokevirtual 50, 3) := by decide +kernel
theorem d_M_init_137 : decode md_M_init.2.1 137 = .ok (.putfield 61, 3) := by decide +kernel
theorem d_M_init_140 : decode md_M_init.2.1 140 = .ok (.aload_n 0, 1) := by decide +kernel
theorem d_M_init_141 : decode md_M_init.2.1 141 = .ok (.aload_n 0, 1) := by decide +kernel
theorem d_M_init_142 : decode md_M_init.2.1 142 = .ok (.iload 4, 2) := by decide +kernel
theorem d_M_init_144 : decode md_M_init.2.1 144 = .ok (.invokevirtual 50, 3) := by decide +kernel
theorem d_M_init_147 : decode md_M_init.2.1 147 = .ok (.putfield 64, 3) := by decide +kernel
theorem d_M_init_150 : decode md_M_init.2.1 150 = .ok (.return_, 1) := by decide +kernel
theorem d_M_held_0 : decode md_M_held.2.1 0 = .ok (.iload_n 1, 1) := by decide +kernel
theorem d_M_held_1 : decode md_M_held.2.1 1 = .ok (.ifCond .ge 7, 3) := by decide +kernel
theorem d_M_held_4 : decode md_M_held.2.1 4 = .ok (.iconst 0, 1) := by decide +kernel
theorem d_M_held_5 : decode md_M_held.2.1 5 = .ok (.goto 15, 3) := by decide +kernel
theorem d_M_held_8 : decode md_M_held.2.1 8 = .ok (.iload_n 1, 1) := by decide +kernel
theorem d_M_held_9 : decode md_M_held.2.1 9 = .ok (.ldc 70, 2) := by decide +kernel
theorem d_M_held_11 : decode md_M_held.2.1 11 = .ok (.if_icmp .le 8, 3) := by decide +kernel
theorem d_M_held_14 : decode md_M_held.2.1 14 = .ok (.ldc 70, 2) := by decide +kernel
theorem d_M_held_16 : decode md_M_held.2.1 16 = .ok (.goto 4, 3) := by decide +kernel
theorem d_M_held_19 : decode md_M_held.2.1 19 = .ok (.iload_n 1, 1) := by decide +kernel
theorem d_M_held_20 : decode md_M_held.2.1 20 = .ok (.ireturn, 1) := by decide +kernel
theorem d_M_thrown_0 : decode md_M_thrown.2.1 0 = .ok (.aload_n 0, 1) := by decide +kernel
theorem d_M_thrown_1 : decode md_M_thrown.2.1 1 = .ok (.getfield 67, 3) := by decide +kernel
theorem d_M_thrown_4 : decode md_M_thrown.2.1 4 = .ok (.ireturn, 1) := by decide +kernel
theorem d_M_fold_0 : decode md_M_fold.2.1 0 = .ok (.aload_n 0, 1) := by decide +kernel
theorem d_M_fold_1 : decode md_M_fold.2.1 1 = .ok (.iload_n 1, 1) := by decide +kernel
theorem d_M_fold_2 : decode md_M_fold.2.1 2 = .ok (.ifCond .lt 9, 3) := by decide +kernel
theorem d_M_fold_5 : decode md_M_fold.2.1 5 = .ok (.iload_n 1, 1) := by decide +kernel
theorem d_M_fold_6 : decode md_M_fold.2.1 6 = .ok (.bipush 8, 2) := by decide +kernel
theorem d_M_fold_8 : decode md_M_fold.2.1 8 = .ok (.if_icmp .le 7, 3) := by decide +kernel
theorem d_M_fold_11 : decode md_M_fold.2.1 11 = .ok (.iconst 1, 1) := by decide +kernel
theorem d_M_fold_12 : decode md_M_fold.2.1 12 = .ok (.goto 24, 3) := by decide +kernel
theorem d_M_fold_15 : decode md_M_fold.2.1 15 = .ok (.aload_n 0, 1) := by decide +kernel
theorem d_M_fold_16 : decode md_M_fold.2.1 16 = .ok (.getfield 71, 3) := by decide +kernel
theorem d_M_fold_19 : decode md_M_fold.2.1 19 = .ok (.bipush 6, 2) := by decide +kernel
theorem d_M_fold_21 : decode md_M_fold.2.1 21 = .ok (.if_icmp .eq 10, 3) := by decide +kernel
theorem d_M_fold_24 : decode md_M_fold.2.1 24 = .ok (.aload_n 0, 1) := by decide +kernel
theorem d_M_fold_25 : decode md_M_fold.2.1 25 = .ok (.getfield 80, 3) := by decide +kernel
theorem d_M_fold_28 : decode md_M_fold.2.1 28 = .ok (.ifCond .le 7, 3) := by decide +kernel
theorem d_M_fold_31 : decode md_M_fold.2.1 31 = .ok (.iconst 2, 1) := by decide +kernel
theorem d_M_fold_32 : decode md_M_fold.2.1 32 = .ok (.goto 4, 3) := by decide +kernel
theorem d_M_fold_35 : decode md_M_fold.2.1 35 = .ok (.iconst 0, 1) := by decide +kernel
theorem d_M_fold_36 : decode md_M_fold.2.1 36 = .ok (.putfield 67, 3) := by decide +kernel
theorem d_M_fold_39 : decode md_M_fold.2.1 39 = .ok (.aload_n 0, 1) := by decide +kernel
theorem d_M_fold_40 : decode md_M_fold.2.1 40 = .ok (.getfield 67, 3) := by decide +kernel
theorem d_M_fold_43 : decode md_M_fold.2.1 43 = .ok (.ifCond .le 5, 3) := by decide +kernel
theorem d_M_fold_46 : decode md_M_fold.2.1 46 = .ok (.iconst 0, 1) := by decide +kernel
theorem d_M_fold_47 : decode md_M_fold.2.1 47 = .ok (.ireturn, 1) := by decide +kernel
theorem d_M_fold_48 : decode md_M_fold.2.1 48 = .ok (.aload_n 0, 1) := by decide +kernel
theorem d_M_fold_49 : decode md_M_fold.2.1 49 = .ok (.getfield 7, 3) := by decide +kernel
theorem d_M_fold_52 : decode md_M_fold.2.1 52 = .ok (.aload_n 0, 1) := by decide +kernel
theorem d_M_fold_53 : decode md_M_fold.2.1 53 = .ok (.getfield 71, 3) := by decide +kernel
theorem d_M_fold_56 : decode md_M_fold.2.1 56 = .ok (.iload_n 1, 1) := by decide +kernel
theorem d_M_fold_57 : decode md_M_fold.2.1 57 = .ok (.iastore, 1) := by decide +kernel
theorem d_M_fold_58 : decode md_M_fold.2.1 58 = .ok (.aload_n 0, 1) := by decide +kernel
theorem d_M_fold_59 : decode md_M_fold.2.1 59 = .ok (.getfield 13, 3) := by decide +kernel
theorem d_M_fold_62 : decode md_M_fold.2.1 62 = .ok (.aload_n 0, 1) := by decide +kernel
theorem d_M_fold_63 : decode md_M_fold.2.1 63 = .ok (.getfield 71, 3) := by decide +kernel
theorem d_M_fold_66 : decode md_M_fold.2.1 66 = .ok (.lload_n 2, 1) := by decide +kernel
theorem d_M_fold_67 : decode md_M_fold.2.1 67 = .ok (.lastore, 1) := by decide +kernel
theorem d_M_fold_68 : decode md_M_fold.2.1 68 = .ok (.aload_n 0, 1) := by decide +kernel
theorem d_M_fold_69 : decode md_M_fold.2.1 69 = .ok (.getfield 17, 3) := by decide +kernel
theorem d_M_fold_72 : decode md_M_fold.2.1 72 = .ok (.aload_n 0, 1) := by decide +kernel
theorem d_M_fold_73 : decode md_M_fold.2.1 73 = .ok (.getfield 71, 3) := by decide +kernel
theorem d_M_fold_76 : decode md_M_fold.2.1 76 = .ok (.lload 4, 2) := by decide +kernel
theorem d_M_fold_78 : decode md_M_fold.2.1 78 = .ok (.lastore, 1) := by decide +kernel
theorem d_M_fold_79 : decode md_M_fold.2.1 79 = .ok (.aload_n 0, 1) := by decide +kernel
theorem d_M_fold_80 : decode md_M_fold.2.1 80 = .ok (.dup, 1) := by decide +kernel
theorem d_M_fold_81 : decode md_M_fold.2.1 81 = .ok (.getfield 71, 3) := by decide +kernel
theorem d_M_fold_84 : decode md_M_fold.2.1 84 = .ok (.iconst 1, 1) := by decide +kernel
theorem d_M_fold_85 : decode md_M_fold.2.1 85 = .ok (.iadd, 1) := by decide +kernel
theorem d_M_fold_86 : decode md_M_fold.2.1 86 = .ok (.putfield 71, 3) := by decide +kernel
theorem d_M_fold_89 : decode md_M_fold.2.1 89 = .ok (.aload_n 0, 1) := by decide +kernel
theorem d_M_fold_90 : decode md_M_fold.2.1 90 = .ok (.getfield 71, 3) := by decide +kernel
theorem d_M_fold_93 : decode md_M_fold.2.1 93 = .ok (.iconst 1, 1) := by decide +kernel
theorem d_M_fold_94 : decode md_M_fold.2.1 94 = .ok (.isub, 1) := by decide +kernel
theorem d_M_fold_95 : decode md_M_fold.2.1 95 = .ok (.ireturn, 1) := by decide +kernel
theorem d_M_failsAt_0 : decode md_M_failsAt.2.1 0 = .ok (.aload_n 0, 1) := by decide +kernel
theorem d_M_failsAt_1 : decode md_M_failsAt.2.1 1 = .ok (.aload_n 0, 1) := by decide +kernel
theorem d_M_failsAt_2 : decode md_M_failsAt.2.1 2 = .ok (.iload_n 1, 1) := by decide +kernel
theorem d_M_failsAt_3 : decode md_M_failsAt.2.1 3 = .ok (.invokevirtual 83, 3) := by decide +kernel
theorem d_M_failsAt_6 : decode md_M_failsAt.2.1 6 = .ok (.ifCond .ne 7, 3) := by decide +kernel
theorem d_M_failsAt_9 : decode md_M_failsAt.2.1 9 = .ok (.iconst 1, 1) := by decide +kernel
theorem d_M_failsAt_10 : decode md_M_failsAt.2.1 10 = .ok (.goto 27, 3) := by decide +kernel
theorem d_M_failsAt_13 : decode md_M_failsAt.2.1 13 = .ok (.aload_n 0, 1) := by decide +kernel
theorem d_M_failsAt_14 : decode md_M_failsAt.2.1 14 = .ok (.getfield 20, 3) := by decide +kernel
theorem d_M_failsAt_17 : decode md_M_failsAt.2.1 17 = .ok (.iload_n 1, 1) := by decide +kernel
theorem d_M_failsAt_18 : decode md_M_failsAt.2.1 18 = .ok (.iaload, 1) := by decide +kernel
theorem d_M_failsAt_19 : decode md_M_failsAt.2.1 19 = .ok (.iconst 4, 1) := by decide +kernel
theorem d_M_failsAt_20 : decode md_M_failsAt.2.1 20 = .ok (.if_icmp .eq 12, 3) := by decide +kernel
theorem d_M_failsAt_23 : decode md_M_failsAt.2.1 23 = .ok (.aload_n 0, 1) := by decide +kernel
theorem d_M_failsAt_24 : decode md_M_failsAt.2.1 24 = .ok (.iload_n 1, 1) := by decide +kernel
theorem d_M_failsAt_25 : decode md_M_failsAt.2.1 25 = .ok (.lload_n 2, 1) := by decide +kernel
theorem d_M_failsAt_26 : decode md_M_failsAt.2.1 26 = .ok (.invokevirtual 87, 3) := by decide +kernel
theorem d_M_failsAt_29 : decode md_M_failsAt.2.1 29 = .ok (.ifCond .eq 7, 3) := by decide +kernel
theorem d_M_failsAt_32 : decode md_M_failsAt.2.1 32 = .ok (.iconst 2, 1) := by decide +kernel
theorem d_M_failsAt_33 : decode md_M_failsAt.2.1 33 = .ok (.goto 4, 3) := by decide +kernel
theorem d_M_failsAt_36 : decode md_M_failsAt.2.1 36 = .ok (.iconst 0, 1) := by decide +kernel
theorem d_M_failsAt_37 : decode md_M_failsAt.2.1 37 = .ok (.putfield 67, 3) := by decide +kernel
theorem d_M_failsAt_40 : decode md_M_failsAt.2.1 40 = .ok (.aload_n 0, 1) := by decide +kernel
theorem d_M_failsAt_41 : decode md_M_failsAt.2.1 41 = .ok (.getfield 67, 3) := by decide +kernel
theorem d_M_failsAt_44 : decode md_M_failsAt.2.1 44 = .ok (.ifCond .le 5, 3) := by decide +kernel
theorem d_M_failsAt_47 : decode md_M_failsAt.2.1 47 = .ok (.iconst 0, 1) := by decide +kernel
theorem d_M_failsAt_48 : decode md_M_failsAt.2.1 48 = .ok (.ireturn, 1) := by decide +kernel
theorem d_M_failsAt_49 : decode md_M_failsAt.2.1 49 = .ok (.aload_n 0, 1) := by decide +kernel
theorem d_M_failsAt_50 : decode md_M_failsAt.2.1 50 = .ok (.getfield 23, 3) := by decide +kernel
theorem d_M_failsAt_53 : decode md_M_failsAt.2.1 53 = .ok (.iconst 4, 1) := by decide +kernel
theorem d_M_failsAt_54 : decode md_M_failsAt.2.1 54 = .ok (.iload_n 1, 1) := by decide +kernel
theorem d_M_failsAt_55 : decode md_M_failsAt.2.1 55 = .ok (.imul, 1) := by decide +kernel
theorem d_M_failsAt_56 : decode md_M_failsAt.2.1 56 = .ok (.aload_n 0, 1) := by decide +kernel
theorem d_M_failsAt_57 : decode md_M_failsAt.2.1 57 = .ok (.getfield 20, 3) := by decide +kernel
theorem d_M_failsAt_60 : decode md_M_failsAt.2.1 60 = .ok (.iload_n 1, 1) := by decide +kernel
theorem d_M_failsAt_61 : decode md_M_failsAt.2.1 61 = .ok (.iaload, 1) := by decide +kernel
theorem d_M_failsAt_62 : decode md_M_failsAt.2.1 62 = .ok (.iadd, 1) := by decide +kernel
theorem d_M_failsAt_63 : decode md_M_failsAt.2.1 63 = .ok (.lload_n 2, 1) := by decide +kernel
theorem d_M_failsAt_64 : decode md_M_failsAt.2.1 64 = .ok (.lastore, 1) := by decide +kernel
theorem d_M_failsAt_65 : decode md_M_failsAt.2.1 65 = .ok (.aload_n 0, 1) := by decide +kernel
theorem d_M_failsAt_66 : decode md_M_failsAt.2.1 66 = .ok (.getfield 20, 3) := by decide +kernel
theorem d_M_failsAt_69 : decode md_M_failsAt.2.1 69 = .ok (.iload_n 1, 1) := by decide +kernel
theorem d_M_failsAt_70 : decode md_M_failsAt.2.1 70 = .ok (.dup2, 1) := by decide +kernel
theorem d_M_failsAt_71 : decode md_M_failsAt.2.1 71 = .ok (.iaload, 1) := by decide +kernel
theorem d_M_failsAt_72 : decode md_M_failsAt.2.1 72 = .ok (.iconst 1, 1) := by decide +kernel
theorem d_M_failsAt_73 : decode md_M_failsAt.2.1 73 = .ok (.iadd, 1) := by decide +kernel
theorem d_M_failsAt_74 : decode md_M_failsAt.2.1 74 = .ok (.iastore, 1) := by decide +kernel
theorem d_M_failsAt_75 : decode md_M_failsAt.2.1 75 = .ok (.aload_n 0, 1) := by decide +kernel
theorem d_M_failsAt_76 : decode md_M_failsAt.2.1 76 = .ok (.getfield 20, 3) := by decide +kernel
theorem d_M_failsAt_79 : decode md_M_failsAt.2.1 79 = .ok (.iload_n 1, 1) := by decide +kernel
theorem d_M_failsAt_80 : decode md_M_failsAt.2.1 80 = .ok (.iaload, 1) := by decide +kernel
theorem d_M_failsAt_81 : decode md_M_failsAt.2.1 81 = .ok (.ireturn, 1) := by decide +kernel
theorem d_M_isFold_0 : decode md_M_isFold.2.1 0 = .ok (.iload_n 1, 1) := by decide +kernel
theorem d_M_isFold_1 : decode md_M_isFold.2.1 1 = .ok (.ifCond .lt 15, 3) := by decide +kernel
theorem d_M_isFold_4 : decode md_M_isFold.2.1 4 = .ok (.iload_n 1, 1) := by decide +kernel
theorem d_M_isFold_5 : decode md_M_isFold.2.1 5 = .ok (.aload_n 0, 1) := by decide +kernel
theorem d_M_isFold_6 : decode md_M_isFold.2.1 6 = .ok (.getfield 71, 3) := by decide +kernel
theorem d_M_isFold_9 : decode md_M_isFold.2.1 9 = .ok (.if_icmp .ge 7, 3) := by decide +kernel
theorem d_M_isFold_12 : decode md_M_isFold.2.1 12 = .ok (.iconst 1, 1) := by decide +kernel
theorem d_M_isFold_13 : decode md_M_isFold.2.1 13 = .ok (.goto 4, 3) := by decide +kernel
theorem d_M_isFold_16 : decode md_M_isFold.2.1 16 = .ok (.iconst 0, 1) := by decide +kernel
theorem d_M_isFold_17 : decode md_M_isFold.2.1 17 = .ok (.ireturn, 1) := by decide +kernel
theorem d_M_failsAtIt_0 : decode md_M_failsAtIt.2.1 0 = .ok (.iconst 0, 1) := by decide +kernel
theorem d_M_failsAtIt_1 : decode md_M_failsAtIt.2.1 1 = .ok (.istore 4, 2) := by decide +kernel
theorem d_M_failsAtIt_3 : decode md_M_failsAtIt.2.1 3 = .ok (.iconst 0, 1) := by decide +kernel
theorem d_M_failsAtIt_4 : decode md_M_failsAtIt.2.1 4 = .ok (.istore 5, 2) := by decide +kernel
theorem d_M_failsAtIt_6 : decode md_M_failsAtIt.2.1 6 = .ok (.iload 5, 2) := by decide +kernel
theorem d_M_failsAtIt_8 : decode md_M_failsAtIt.2.1 8 = .ok (.aload_n 0, 1) := by decide +kernel
theorem d_M_failsAtIt_9 : decode md_M_failsAtIt.2.1 9 = .ok (.getfield 20, 3) := by decide +kernel
theorem d_M_failsAtIt_12 : decode md_M_failsAtIt.2.1 12 = .ok (.iload_n 1, 1) := by decide +kernel
theorem d_M_failsAtIt_13 : decode md_M_failsAtIt.2.1 13 = .ok (.iaload, 1) := by decide +kernel
theorem d_M_failsAtIt_14 : decode md_M_failsAtIt.2.1 14 = .ok (.if_icmp .ge 35, 3) := by decide +kernel
theorem d_M_failsAtIt_17 : decode md_M_failsAtIt.2.1 17 = .ok (.iload 4, 2) := by decide +kernel
theorem d_M_failsAtIt_19 : decode md_M_failsAtIt.2.1 19 = .ok (.aload_n 0, 1) := by decide +kernel
theorem d_M_failsAtIt_20 : decode md_M_failsAtIt.2.1 20 = .ok (.getfield 23, 3) := by decide +kernel
theorem d_M_failsAtIt_23 : decode md_M_failsAtIt.2.1 23 = .ok (.iconst 4, 1) := by decide +kernel
theorem d_M_failsAtIt_24 : decode md_M_failsAtIt.2.1 24 = .ok (.iload_n 1, 1) := by decide +kernel
theorem d_M_failsAtIt_25 : decode md_M_failsAtIt.2.1 25 = .ok (.imul, 1) := by decide +kernel
theorem d_M_failsAtIt_26 : decode md_M_failsAtIt.2.1 26 = .ok (.iload 5, 2) := by decide +kernel
theorem d_M_failsAtIt_28 : decode md_M_failsAtIt.2.1 28 = .ok (.iadd, 1) := by decide +kernel
theorem d_M_failsAtIt_29 : decode md_M_failsAtIt.2.1 29 = .ok (.laload, 1) := by decide +kernel
theorem d_M_failsAtIt_30 : decode md_M_failsAtIt.2.1 30 = .ok (.lload_n 2, 1) := by decide +kernel
theorem d_M_failsAtIt_31 : decode md_M_failsAtIt.2.1 31 = .ok (.lcmp, 1) := by decide +kernel
theorem d_M_failsAtIt_32 : decode md_M_failsAtIt.2.1 32 = .ok (.ifCond .ne 7, 3) := by decide +kernel
theorem d_M_failsAtIt_35 : decode md_M_failsAtIt.2.1 35 = .ok (.iconst 1, 1) := by decide +kernel
theorem d_M_failsAtIt_36 : decode md_M_failsAtIt.2.1 36 = .ok (.goto 4, 3) := by decide +kernel
theorem d_M_failsAtIt_39 : decode md_M_failsAtIt.2.1 39 = .ok (.iconst 0, 1) := by decide +kernel
theorem d_M_failsAtIt_40 : decode md_M_failsAtIt.2.1 40 = .ok (.ior, 1) := by decide +kernel
theorem d_M_failsAtIt_41 : decode md_M_failsAtIt.2.1 41 = .ok (.istore 4, 2) := by decide +kernel
theorem d_M_failsAtIt_43 : decode md_M_failsAtIt.2.1 43 = .ok (.iinc 5 1, 3) := by decide +kernel
theorem d_M_failsAtIt_46 : decode md_M_failsAtIt.2.1 46 = .ok (.goto (-40), 3) := by decide +kernel
theorem d_M_failsAtIt_49 : decode md_M_failsAtIt.2.1 49 = .ok (.iload 4, 2) := by decide +kernel
theorem d_M_failsAtIt_51 : decode md_M_failsAtIt.2.1 51 = .ok (.ireturn, 1) := by decide +kernel
theorem d_M_rule_0 : decode md_M_rule.2.1 0 = .ok (.aload_n 0, 1) := by decide +kernel
theorem d_M_rule_1 : decode md_M_rule.2.1 1 = .ok (.iload_n 1, 1) := by decide +kernel
theorem d_M_rule_2 : decode md_M_rule.2.1 2 = .ok (.ifCond .lt 17, 3) := by decide +kernel
theorem d_M_rule_5 : decode md_M_rule.2.1 5 = .ok (.iload_n 1, 1) := by decide +kernel
theorem d_M_rule_6 : decode md_M_rule.2.1 6 = .ok (.iconst 1, 1) := by decide +kernel
theorem d_M_rule_7 : decode md_M_rule.2.1 7 = .ok (.if_icmp .gt 12, 3) := by decide +kernel
theorem d_M_rule_10 : decode md_M_rule.2.1 10 = .ok (.iload_n 2, 1) := by decide +kernel
theorem d_M_rule_11 : decode md_M_rule.2.1 11 = .ok (.ifCond .lt 8, 3) := by decide +kernel
theorem d_M_rule_14 : decode md_M_rule.2.1 14 = .ok (.iload_n 2, 1) := by decide +kernel
theorem d_M_rule_15 : decode md_M_rule.2.1 15 = .ok (.iconst 2, 1) := by decide +kernel
theorem d_M_rule_16 : decode md_M_rule.2.1 16 = .ok (.if_icmp .le 7, 3) := by decide +kernel
theorem d_M_rule_19 : decode md_M_rule.2.1 19 = .ok (.iconst 1, 1) := by decide +kernel
theorem d_M_rule_20 : decode md_M_rule.2.1 20 = .ok (.goto 4, 3) := by decide +kernel
theorem d_M_rule_23 : decode md_M_rule.2.1 23 = .ok (.iconst 0, 1) := by decide +kernel
theorem d_M_rule_24 : decode md_M_rule.2.1 24 = .ok (.putfield 67, 3) := by decide +kernel
theorem d_M_rule_27 : decode md_M_rule.2.1 27 = .ok (.aload_n 0, 1) := by decide +kernel
theorem d_M_rule_28 : decode md_M_rule.2.1 28 = .ok (.getfield 67, 3) := by decide +kernel
theorem d_M_rule_31 : decode md_M_rule.2.1 31 = .ok (.ifCond .le 5, 3) := by decide +kernel
theorem d_M_rule_34 : decode md_M_rule.2.1 34 = .ok (.iconst 0, 1) := by decide +kernel
theorem d_M_rule_35 : decode md_M_rule.2.1 35 = .ok (.ireturn, 1) := by decide +kernel
theorem d_M_rule_36 : decode md_M_rule.2.1 36 = .ok (.iload_n 1, 1) := by decide +kernel
theorem d_M_rule_37 : decode md_M_rule.2.1 37 = .ok (.ifCond .ne 10, 3) := by decide +kernel
theorem d_M_rule_40 : decode md_M_rule.2.1 40 = .ok (.aload_n 0, 1) := by decide +kernel
theorem d_M_rule_41 : decode md_M_rule.2.1 41 = .ok (.getfield 91, 3) := by decide +kernel
theorem d_M_rule_44 : decode md_M_rule.2.1 44 = .ok (.goto 7, 3) := by decide +kernel
theorem d_M_rule_47 : decode md_M_rule.2.1 47 = .ok (.aload_n 0, 1) := by decide +kernel
theorem d_M_rule_48 : decode md_M_rule.2.1 48 = .ok (.getfield 94, 3) := by decide +kernel
theorem d_M_rule_51 : decode md_M_rule.2.1 51 = .ok (.istore_n 3, 1) := by decide +kernel
theorem d_M_rule_52 : decode md_M_rule.2.1 52 = .ok (.iload_n 1, 1) := by decide +kernel
theorem d_M_rule_53 : decode md_M_rule.2.1 53 = .ok (.ifCond .ne 11, 3) := by decide +kernel
theorem d_M_rule_56 : decode md_M_rule.2.1 56 = .ok (.aload_n 0, 1) := by decide +kernel
theorem d_M_rule_57 : decode md_M_rule.2.1 57 = .ok (.iload_n 2, 1) := by decide +kernel
theorem d_M_rule_58 : decode md_M_rule.2.1 58 = .ok (.putfield 91, 3) := by decide +kernel
theorem d_M_rule_61 : decode md_M_rule.2.1 61 = .ok (.goto 8, 3) := by decide +kernel
theorem d_M_rule_64 : decode md_M_rule.2.1 64 = .ok (.aload_n 0, 1) := by decide +kernel
theorem d_M_rule_65 : decode md_M_rule.2.1 65 = .ok (.iload_n 2, 1) := by decide +kernel
theorem d_M_rule_66 : decode md_M_rule.2.1 66 = .ok (.putfield 94, 3) := by decide +kernel
theorem d_M_rule_69 : decode md_M_rule.2.1 69 = .ok (.iload_n 3, 1) := by decide +kernel
theorem d_M_rule_70 : decode md_M_rule.2.1 70 = .ok (.ireturn, 1) := by decide +kernel
theorem d_M_row_0 : decode md_M_row.2.1 0 = .ok (.aload_n 0, 1) := by decide +kernel
theorem d_M_row_1 : decode md_M_row.2.1 1 = .ok (.lload_n 3, 1) := by decide +kernel
theorem d_M_row_2 : decode md_M_row.2.1 2 = .ok (.lconst 0, 1) := by decide +kernel
theorem d_M_row_3 : decode md_M_row.2.1 3 = .ok (.lcmp, 1) := by decide +kernel
theorem d_M_row_4 : decode md_M_row.2.1 4 = .ok (.ifCond .lt 11, 3) := by decide +kernel
theorem d_M_row_7 : decode md_M_row.2.1 7 = .ok (.lload_n 3, 1) := by decide +kernel
theorem d_M_row_8 : decode md_M_row.2.1 8 = .ok (.ldc2_w 104, 3) := by decide +kernel
theorem d_M_row_11 : decode md_M_row.2.1 11 = .ok (.lcmp, 1) := by decide +kernel
theorem d_M_row_12 : decode md_M_row.2.1 12 = .ok (.ifCond .le 7, 3) := by decide +kernel
theorem d_M_row_15 : decode md_M_row.2.1 15 = .ok (.iconst 1, 1) := by decide +kernel
theorem d_M_row_16 : decode md_M_row.2.1 16 = .ok (.goto 24, 3) := by decide +kernel
theorem d_M_row_19 : decode md_M_row.2.1 19 = .ok (.aload_n 0, 1) := by decide +kernel
theorem d_M_row_20 : decode md_M_row.2.1 20 = .ok (.getfield 71, 3) := by decide +kernel
theorem d_M_row_23 : decode md_M_row.2.1 23 = .ok (.ifCond .eq 12, 3) := by decide +kernel
theorem d_M_row_26 : decode md_M_row.2.1 26 = .ok (.aload_n 0, 1) := by decide +kernel
theorem d_M_row_27 : decode md_M_row.2.1 27 = .ok (.lload_n 1, 1) := by decide +kernel
theorem d_M_row_28 : decode md_M_row.2.1 28 = .ok (.invokevirtual 106, 3) := by decide +kernel
theorem d_M_row_31 : decode md_M_row.2.1 31 = .ok (.iconst (-1), 1) := by decide +kernel
theorem d_M_row_32 : decode md_M_row.2.1 32 = .ok (.if_icmp .eq 7, 3) := by decide +kernel
theorem d_M_row_35 : decode md_M_row.2.1 35 = .ok (.iconst 2, 1) := by decide +kernel
theorem d_M_row_36 : decode md_M_row.2.1 36 = .ok (.goto 4, 3) := by decide +kernel
theorem d_M_row_39 : decode md_M_row.2.1 39 = .ok (.iconst 0, 1) := by decide +kernel
theorem d_M_row_40 : decode md_M_row.2.1 40 = .ok (.putfield 67, 3) := by decide +kernel
theorem d_M_row_43 : decode md_M_row.2.1 43 = .ok (.aload_n 0, 1) := by decide +kernel
theorem d_M_row_44 : decode md_M_row.2.1 44 = .ok (.getfield 67, 3) := by decide +kernel
theorem d_M_row_47 : decode md_M_row.2.1 47 = .ok (.ifCond .le 5, 3) := by decide +kernel
theorem d_M_row_50 : decode md_M_row.2.1 50 = .ok (.iconst 0, 1) := by decide +kernel
theorem d_M_row_51 : decode md_M_row.2.1 51 = .ok (.ireturn, 1) := by decide +kernel
theorem d_M_row_52 : decode md_M_row.2.1 52 = .ok (.aload_n 0, 1) := by decide +kernel
theorem d_M_row_53 : decode md_M_row.2.1 53 = .ok (.getfield 110, 3) := by decide +kernel
theorem d_M_row_56 : decode md_M_row.2.1 56 = .ok (.ifCond .eq 16, 3) := by decide +kernel
theorem d_M_row_59 : decode md_M_row.2.1 59 = .ok (.lload_n 3, 1) := by decide +kernel
theorem d_M_row_60 : decode md_M_row.2.1 60 = .ok (.aload_n 0, 1) := by decide +kernel
theorem d_M_row_61 : decode md_M_row.2.1 61 = .ok (.getfield 114, 3) := by decide +kernel
theorem d_M_row_64 : decode md_M_row.2.1 64 = .ok (.lcmp, 1) := by decide +kernel
theorem d_M_row_65 : decode md_M_row.2.1 65 = .ok (.ifCond .ge 7, 3) := by decide +kernel
theorem d_M_row_68 : decode md_M_row.2.1 68 = .ok (.iconst 1, 1) := by decide +kernel
theorem d_M_row_69 : decode md_M_row.2.1 69 = .ok (.goto 4, 3) := by decide +kernel
theorem d_M_row_72 : decode md_M_row.2.1 72 = .ok (.iconst 0, 1) := by decide +kernel
theorem d_M_row_73 : decode md_M_row.2.1 73 = .ok (.istore 7, 2) := by decide +kernel
theorem d_M_row_75 : decode md_M_row.2.1 75 = .ok (.iload 7, 2) := by decide +kernel
theorem d_M_row_77 : decode md_M_row.2.1 77 = .ok (.ifCond .eq 45, 3) := by decide +kernel
theorem d_M_row_80 : decode md_M_row.2.1 80 = .ok (.aload_n 0, 1) := by decide +kernel
theorem d_M_row_81 : decode md_M_row.2.1 81 = .ok (.getfield 91, 3) := by decide +kernel
theorem d_M_row_84 : decode md_M_row.2.1 84 = .ok (.iconst 2, 1) := by decide +kernel
theorem d_M_row_85 : decode md_M_row.2.1 85 = .ok (.if_icmp .ge 37, 3) := by decide +kernel
theorem d_M_row_88 : decode md_M_row.2.1 88 = .ok (.aload_n 0, 1) := by decide +kernel
theorem d_M_row_89 : decode md_M_row.2.1 89 = .ok (.dup, 1) := by decide +kernel
theorem d_M_row_90 : decode md_M_row.2.1 90 = .ok (.getfield 118, 3) := by decide +kernel
theorem d_M_row_93 : decode md_M_row.2.1 93 = .ok (.iconst 1, 1) := by decide +kernel
theorem d_M_row_94 : decode md_M_row.2.1 94 = .ok (.iadd, 1) := by decide +kernel
theorem d_M_row_95 : decode md_M_row.2.1 95 = .ok (.putfield 118, 3) := by decide +kernel
theorem d_M_row_98 : decode md_M_row.2.1 98 = .ok (.aload_n 0, 1) := by decide +kernel
theorem d_M_row_99 : decode md_M_row.2.1 99 = .ok (.getfield 91, 3) := by decide +kernel
theorem d_M_row_102 : decode md_M_row.2.1 102 = .ok (.iconst 1, 1) := by decide +kernel
theorem d_M_row_103 : decode md_M_row.2.1 103 = .ok (.if_icmp .ne 12, 3) := by decide +kernel
theorem d_M_row_106 : decode md_M_row.2.1 106 = .ok (.aload_n 0, 1) := by decide +kernel
theorem d_M_row_107 : decode md_M_row.2.1 107 = .ok (.lload_n 1, 1) := by decide +kernel
theorem d_M_row_108 : decode md_M_row.2.1 108 = .ok (.lload_n 3, 1) := by decide +kernel
theorem d_M_row_109 : decode md_M_row.2.1 109 = .ok (.lload 5, 2) := by decide +kernel
theorem d_M_row_111 : decode md_M_row.2.1 111 = .ok (.iconst (-1), 1) := by decide +kernel
theorem d_M_row_112 : decode md_M_row.2.1 112 = .ok (.invokevirtual 121, 3) := by decide +kernel
theorem d_M_row_115 : decode md_M_row.2.1 115 = .ok (.iconst 1, 1) := by decide +kernel
theorem d_M_row_116 : decode md_M_row.2.1 116 = .ok (.aload_n 0, 1) := by decide +kernel
theorem d_M_row_117 : decode md_M_row.2.1 117 = .ok (.getfield 91, 3) := by decide +kernel
theorem d_M_row_120 : decode md_M_row.2.1 120 = .ok (.iadd, 1) := by decide +kernel
theorem d_M_row_121 : decode md_M_row.2.1 121 = .ok (.ireturn, 1) := by decide +kernel
theorem d_M_row_122 : decode md_M_row.2.1 122 = .ok (.aload_n 0, 1) := by decide +kernel
theorem d_M_row_123 : decode md_M_row.2.1 123 = .ok (.lload_n 1, 1) := by decide +kernel
theorem d_M_row_124 : decode md_M_row.2.1 124 = .ok (.invokevirtual 125, 3) := by decide +kernel
theorem d_M_row_127 : decode md_M_row.2.1 127 = .ok (.istore 8, 2) := by decide +kernel
theorem d_M_row_129 : decode md_M_row.2.1 129 = .ok (.aload_n 0, 1) := by decide +kernel
theorem d_M_row_130 : decode md_M_row.2.1 130 = .ok (.iload 8, 2) := by decide +kernel
theorem d_M_row_132 : decode md_M_row.2.1 132 = .ok (.lload_n 3, 1) := by decide +kernel
theorem d_M_row_133 : decode md_M_row.2.1 133 = .ok (.lload 5, 2) := by decide +kernel
theorem d_M_row_135 : decode md_M_row.2.1 135 = .ok (.invokevirtual 128, 3) := by decide +kernel
theorem d_M_row_138 : decode md_M_row.2.1 138 = .ok (.ifCond .eq 34, 3) := by decide +kernel
theorem d_M_row_141 : decode md_M_row.2.1 141 = .ok (.aload_n 0, 1) := by decide +kernel
theorem d_M_row_142 : decode md_M_row.2.1 142 = .ok (.dup, 1) := by decide +kernel
theorem d_M_row_143 : decode md_M_row.2.1 143 = .ok (.getfield 132, 3) := by decide +kernel
theorem d_M_row_146 : decode md_M_row.2.1 146 = .ok (.iconst 1, 1) := by decide +kernel
theorem d_M_row_147 : decode md_M_row.2.1 147 = .ok (.iadd, 1) := by decide +kernel
theorem d_M_row_148 : decode md_M_row.2.1 148 = .ok (.putfield 132, 3) := by decide +kernel
theorem d_M_row_151 : decode md_M_row.2.1 151 = .ok (.aload_n 0, 1) := by decide +kernel
theorem d_M_row_152 : decode md_M_row.2.1 152 = .ok (.dup, 1) := by decide +kernel
theorem d_M_row_153 : decode md_M_row.2.1 153 = .ok (.getfield 118, 3) := by decide +kernel
theorem d_M_row_156 : decode md_M_row.2.1 156 = .ok (.iload 7, 2) := by decide +kernel
theorem d_M_row_158 : decode md_M_row.2.1 158 = .ok (.ifCond .eq 7, 3) := by decide +kernel
theorem d_M_row_161 : decode md_M_row.2.1 161 = .ok (.iconst 1, 1) := by decide +kernel
theorem d_M_row_162 : decode md_M_row.2.1 162 = .ok (.goto 4, 3) := by decide +kernel
theorem d_M_row_165 : decode md_M_row.2.1 165 = .ok (.iconst 0, 1) := by decide +kernel
theorem d_M_row_166 : decode md_M_row.2.1 166 = .ok (.iadd, 1) := by decide +kernel
theorem d_M_row_167 : decode md_M_row.2.1 167 = .ok (.putfield 118, 3) := by decide +kernel
theorem d_M_row_170 : decode md_M_row.2.1 170 = .ok (.iconst 3, 1) := by decide +kernel
theorem d_M_row_171 : decode md_M_row.2.1 171 = .ok (.ireturn, 1) := by decide +kernel
theorem d_M_row_172 : decode md_M_row.2.1 172 = .ok (.aload_n 0, 1) := by decide +kernel
theorem d_M_row_173 : decode md_M_row.2.1 173 = .ok (.lload 5, 2) := by decide +kernel
theorem d_M_row_175 : decode md_M_row.2.1 175 = .ok (.invokevirtual 135, 3) := by decide +kernel
theorem d_M_row_178 : decode md_M_row.2.1 178 = .ok (.istore 9, 2) := by decide +kernel
theorem d_M_row_180 : decode md_M_row.2.1 180 = .ok (.iload 9, 2) := by decide +kernel
theorem d_M_row_182 : decode md_M_row.2.1 182 = .ok (.iconst (-1), 1) := by decide +kernel
theorem d_M_row_183 : decode md_M_row.2.1 183 = .ok (.if_icmp .eq 84, 3) := by decide +kernel
theorem d_M_row_186 : decode md_M_row.2.1 186 = .ok (.aload_n 0, 1) := by decide +kernel
theorem d_M_row_187 : decode md_M_row.2.1 187 = .ok (.dup, 1) := by decide +kernel
theorem d_M_row_188 : decode md_M_row.2.1 188 = .ok (.getfield 138, 3) := by decide +kernel
theorem d_M_row_191 : decode md_M_row.2.1 191 = .ok (.iconst 1, 1) := by decide +kernel
theorem d_M_row_192 : decode md_M_row.2.1 192 = .ok (.iadd, 1) := by decide +kernel
theorem d_M_row_193 : decode md_M_row.2.1 193 = .ok (.putfield 138, 3) := by decide +kernel
theorem d_M_row_196 : decode md_M_row.2.1 196 = .ok (.aload_n 0, 1) := by decide +kernel
theorem d_M_row_197 : decode md_M_row.2.1 197 = .ok (.dup, 1) := by decide +kernel
theorem d_M_row_198 : decode md_M_row.2.1 198 = .ok (.getfield 118, 3) := by decide +kernel
theorem d_M_row_201 : decode md_M_row.2.1 201 = .ok (.iload 7, 2) := by decide +kernel
theorem d_M_row_203 : decode md_M_row.2.1 203 = .ok (.ifCond .eq 7, 3) := by decide +kernel
theorem d_M_row_206 : decode md_M_row.2.1 206 = .ok (.iconst 1, 1) := by decide +kernel
theorem d_M_row_207 : decode md_M_row.2.1 207 = .ok (.goto 4, 3) := by decide +kernel
theorem d_M_row_210 : decode md_M_row.2.1 210 = .ok (.iconst 0, 1) := by decide +kernel
theorem d_M_row_211 : decode md_M_row.2.1 211 = .ok (.iadd, 1) := by decide +kernel
theorem d_M_row_212 : decode md_M_row.2.1 212 = .ok (.putfield 118, 3) := by decide +kernel
theorem d_M_row_215 : decode md_M_row.2.1 215 = .ok (.aload_n 0, 1) := by decide +kernel
theorem d_M_row_216 : decode md_M_row.2.1 216 = .ok (.getfield 94, 3) := by decide +kernel
theorem d_M_row_219 : decode md_M_row.2.1 219 = .ok (.ifCond .ne 23, 3) := by decide +kernel
theorem d_M_row_222 : decode md_M_row.2.1 222 = .ok (.aload_n 0, 1) := by decide +kernel
theorem d_M_row_223 : decode md_M_row.2.1 223 = .ok (.getfield 41, 3) := by decide +kernel
theorem d_M_row_226 : decode md_M_row.2.1 226 = .ok (.aload_n 0, 1) := by decide +kernel
theorem d_M_row_227 : decode md_M_row.2.1 227 = .ok (.getfield 77, 3) := by decide +kernel
theorem d_M_row_230 : decode md_M_row.2.1 230 = .ok (.lload_n 1, 1) := by decide +kernel
