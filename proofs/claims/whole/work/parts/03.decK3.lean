theorem d_K_doTimers_85 : decode md_K_doTimers.2.1 85 = .ok (.goto (-27), 3) := by decide +kernel
theorem d_K_doTimers_88 : decode md_K_doTimers.2.1 88 = .ok (.aload_n 0, 1) := by decide +kernel
theorem d_K_doTimers_89 : decode md_K_doTimers.2.1 89 = .ok (.lload_n 1, 1) := by decide +kernel
theorem d_K_doTimers_90 : decode md_K_doTimers.2.1 90 = .ok (.putfield 51, 3) := by decide +kernel
theorem d_K_doTimers_93 : decode md_K_doTimers.2.1 93 = .ok (.return_, 1) := by decide +kernel
theorem d_K_tellStatesBelow_0 : decode md_K_tellStatesBelow.2.1 0 = .ok (.iconst 0, 1) := by decide +kernel
theorem d_K_tellStatesBelow_1 : decode md_K_tellStatesBelow.2.1 1 = .ok (.istore_n 3, 1) := by decide +kernel
theorem d_K_tellStatesBelow_2 : decode md_K_tellStatesBelow.2.1 2 = .ok (.iload_n 3, 1) := by decide +kernel
theorem d_K_tellStatesBelow_3 : decode md_K_tellStatesBelow.2.1 3 = .ok (.aload_n 0, 1) := by decide +kernel
theorem d_K_tellStatesBelow_4 : decode md_K_tellStatesBelow.2.1 4 = .ok (.getfield 16, 3) := by decide +kernel
theorem d_K_tellStatesBelow_7 : decode md_K_tellStatesBelow.2.1 7 = .ok (.invokevirtual 92, 3) := by decide +kernel
theorem d_K_tellStatesBelow_10 : decode md_K_tellStatesBelow.2.1 10 = .ok (.if_icmp .ge 44, 3) := by decide +kernel
theorem d_K_tellStatesBelow_13 : decode md_K_tellStatesBelow.2.1 13 = .ok (.aload_n 0, 1) := by decide +kernel
theorem d_K_tellStatesBelow_14 : decode md_K_tellStatesBelow.2.1 14 = .ok (.getfield 16, 3) := by decide +kernel
theorem d_K_tellStatesBelow_17 : decode md_K_tellStatesBelow.2.1 17 = .ok (.iload_n 3, 1) := by decide +kernel
theorem d_K_tellStatesBelow_18 : decode md_K_tellStatesBelow.2.1 18 = .ok (.invokevirtual 125, 3) := by decide +kernel
theorem d_K_tellStatesBelow_21 : decode md_K_tellStatesBelow.2.1 21 = .ok (.checkcast 196, 3) := by decide +kernel
theorem d_K_tellStatesBelow_24 : decode md_K_tellStatesBelow.2.1 24 = .ok (.astore 4, 2) := by decide +kernel
theorem d_K_tellStatesBelow_26 : decode md_K_tellStatesBelow.2.1 26 = .ok (.aload 4, 2) := by decide +kernel
theorem d_K_tellStatesBelow_28 : decode md_K_tellStatesBelow.2.1 28 = .ok (.lload_n 1, 1) := by decide +kernel
theorem d_K_tellStatesBelow_29 : decode md_K_tellStatesBelow.2.1 29 = .ok (.invokevirtual 317, 3) := by decide +kernel
theorem d_K_tellStatesBelow_32 : decode md_K_tellStatesBelow.2.1 32 = .ok (.istore 5, 2) := by decide +kernel
theorem d_K_tellStatesBelow_34 : decode md_K_tellStatesBelow.2.1 34 = .ok (.iload 5, 2) := by decide +kernel
theorem d_K_tellStatesBelow_36 : decode md_K_tellStatesBelow.2.1 36 = .ok (.ifCond .le 12, 3) := by decide +kernel
theorem d_K_tellStatesBelow_39 : decode md_K_tellStatesBelow.2.1 39 = .ok (.aload_n 0, 1) := by decide +kernel
theorem d_K_tellStatesBelow_40 : decode md_K_tellStatesBelow.2.1 40 = .ok (.lload_n 1, 1) := by decide +kernel
theorem d_K_tellStatesBelow_41 : decode md_K_tellStatesBelow.2.1 41 = .ok (.aload 4, 2) := by decide +kernel
theorem d_K_tellStatesBelow_43 : decode md_K_tellStatesBelow.2.1 43 = .ok (.iload 5, 2) := by decide +kernel
theorem d_K_tellStatesBelow_45 : decode md_K_tellStatesBelow.2.1 45 = .ok (.invokevirtual 320, 3) := by decide +kernel
theorem d_K_tellStatesBelow_48 : decode md_K_tellStatesBelow.2.1 48 = .ok (.iinc 3 1, 3) := by decide +kernel
theorem d_K_tellStatesBelow_51 : decode md_K_tellStatesBelow.2.1 51 = .ok (.goto (-49), 3) := by decide +kernel
theorem d_K_tellStatesBelow_54 : decode md_K_tellStatesBelow.2.1 54 = .ok (.return_, 1) := by decide +kernel
theorem d_K_putOut_0 : decode md_K_putOut.2.1 0 = .ok (.aload_n 0, 1) := by decide +kernel
theorem d_K_putOut_1 : decode md_K_putOut.2.1 1 = .ok (.getfield 35, 3) := by decide +kernel
theorem d_K_putOut_4 : decode md_K_putOut.2.1 4 = .ok (.invokevirtual 284, 3) := by decide +kernel
theorem d_K_putOut_7 : decode md_K_putOut.2.1 7 = .ok (.istore 5, 2) := by decide +kernel
theorem d_K_putOut_9 : decode md_K_putOut.2.1 9 = .ok (.iload 5, 2) := by decide +kernel
theorem d_K_putOut_11 : decode md_K_putOut.2.1 11 = .ok (.iconst (-1), 1) := by decide +kernel
theorem d_K_putOut_12 : decode md_K_putOut.2.1 12 = .ok (.if_icmp .eq 80, 3) := by decide +kernel
theorem d_K_putOut_15 : decode md_K_putOut.2.1 15 = .ok (.aload_n 0, 1) := by decide +kernel
theorem d_K_putOut_16 : decode md_K_putOut.2.1 16 = .ok (.getfield 35, 3) := by decide +kernel
theorem d_K_putOut_19 : decode md_K_putOut.2.1 19 = .ok (.iload 5, 2) := by decide +kernel
theorem d_K_putOut_21 : decode md_K_putOut.2.1 21 = .ok (.iconst 0, 1) := by decide +kernel
theorem d_K_putOut_22 : decode md_K_putOut.2.1 22 = .ok (.lload_n 1, 1) := by decide +kernel
theorem d_K_putOut_23 : decode md_K_putOut.2.1 23 = .ok (.invokevirtual 287, 3) := by decide +kernel
theorem d_K_putOut_26 : decode md_K_putOut.2.1 26 = .ok (.aload_n 0, 1) := by decide +kernel
theorem d_K_putOut_27 : decode md_K_putOut.2.1 27 = .ok (.getfield 35, 3) := by decide +kernel
theorem d_K_putOut_30 : decode md_K_putOut.2.1 30 = .ok (.iload 5, 2) := by decide +kernel
theorem d_K_putOut_32 : decode md_K_putOut.2.1 32 = .ok (.iconst 1, 1) := by decide +kernel
theorem d_K_putOut_33 : decode md_K_putOut.2.1 33 = .ok (.aload_n 3, 1) := by decide +kernel
theorem d_K_putOut_34 : decode md_K_putOut.2.1 34 = .ok (.getfield 268, 3) := by decide +kernel
theorem d_K_putOut_37 : decode md_K_putOut.2.1 37 = .ok (.invokevirtual 287, 3) := by decide +kernel
theorem d_K_putOut_40 : decode md_K_putOut.2.1 40 = .ok (.iconst 0, 1) := by decide +kernel
theorem d_K_putOut_41 : decode md_K_putOut.2.1 41 = .ok (.istore 6, 2) := by decide +kernel
theorem d_K_putOut_43 : decode md_K_putOut.2.1 43 = .ok (.iload 6, 2) := by decide +kernel
theorem d_K_putOut_45 : decode md_K_putOut.2.1 45 = .ok (.aload_n 0, 1) := by decide +kernel
theorem d_K_putOut_46 : decode md_K_putOut.2.1 46 = .ok (.getfield 10, 3) := by decide +kernel
theorem d_K_putOut_49 : decode md_K_putOut.2.1 49 = .ok (.invokevirtual 92, 3) := by decide +kernel
theorem d_K_putOut_52 : decode md_K_putOut.2.1 52 = .ok (.if_icmp .ge 40, 3) := by decide +kernel
theorem d_K_putOut_55 : decode md_K_putOut.2.1 55 = .ok (.aload_n 0, 1) := by decide +kernel
theorem d_K_putOut_56 : decode md_K_putOut.2.1 56 = .ok (.getfield 35, 3) := by decide +kernel
theorem d_K_putOut_59 : decode md_K_putOut.2.1 59 = .ok (.iload 5, 2) := by decide +kernel
theorem d_K_putOut_61 : decode md_K_putOut.2.1 61 = .ok (.iconst 2, 1) := by decide +kernel
theorem d_K_putOut_62 : decode md_K_putOut.2.1 62 = .ok (.iload 6, 2) := by decide +kernel
theorem d_K_putOut_64 : decode md_K_putOut.2.1 64 = .ok (.iadd, 1) := by decide +kernel
theorem d_K_putOut_65 : decode md_K_putOut.2.1 65 = .ok (.aload_n 3, 1) := by decide +kernel
theorem d_K_putOut_66 : decode md_K_putOut.2.1 66 = .ok (.iload 4, 2) := by decide +kernel
theorem d_K_putOut_68 : decode md_K_putOut.2.1 68 = .ok (.aload_n 0, 1) := by decide +kernel
theorem d_K_putOut_69 : decode md_K_putOut.2.1 69 = .ok (.getfield 10, 3) := by decide +kernel
theorem d_K_putOut_72 : decode md_K_putOut.2.1 72 = .ok (.iload 6, 2) := by decide +kernel
theorem d_K_putOut_74 : decode md_K_putOut.2.1 74 = .ok (.invokevirtual 125, 3) := by decide +kernel
theorem d_K_putOut_77 : decode md_K_putOut.2.1 77 = .ok (.checkcast 107, 3) := by decide +kernel
theorem d_K_putOut_80 : decode md_K_putOut.2.1 80 = .ok (.invokevirtual 324, 3) := by decide +kernel
theorem d_K_putOut_83 : decode md_K_putOut.2.1 83 = .ok (.invokevirtual 287, 3) := by decide +kernel
theorem d_K_putOut_86 : decode md_K_putOut.2.1 86 = .ok (.iinc 6 1, 3) := by decide +kernel
theorem d_K_putOut_89 : decode md_K_putOut.2.1 89 = .ok (.goto (-46), 3) := by decide +kernel
theorem d_K_putOut_92 : decode md_K_putOut.2.1 92 = .ok (.return_, 1) := by decide +kernel
theorem d_T_addLine_0 : decode md_T_addLine.2.1 0 = .ok (.aload_n 0, 1) := by decide +kernel
theorem d_T_addLine_1 : decode md_T_addLine.2.1 1 = .ok (.getfield 9, 3) := by decide +kernel
theorem d_T_addLine_4 : decode md_T_addLine.2.1 4 = .ok (.istore_n 1, 1) := by decide +kernel
theorem d_T_addLine_5 : decode md_T_addLine.2.1 5 = .ok (.aload_n 0, 1) := by decide +kernel
theorem d_T_addLine_6 : decode md_T_addLine.2.1 6 = .ok (.dup, 1) := by decide +kernel
theorem d_T_addLine_7 : decode md_T_addLine.2.1 7 = .ok (.getfield 9, 3) := by decide +kernel
theorem d_T_addLine_10 : decode md_T_addLine.2.1 10 = .ok (.iconst 1, 1) := by decide +kernel
theorem d_T_addLine_11 : decode md_T_addLine.2.1 11 = .ok (.iadd, 1) := by decide +kernel
theorem d_T_addLine_12 : decode md_T_addLine.2.1 12 = .ok (.putfield 9, 3) := by decide +kernel
theorem d_T_addLine_15 : decode md_T_addLine.2.1 15 = .ok (.iload_n 1, 1) := by decide +kernel
theorem d_T_addLine_16 : decode md_T_addLine.2.1 16 = .ok (.ifCond .lt 15, 3) := by decide +kernel
theorem d_T_addLine_19 : decode md_T_addLine.2.1 19 = .ok (.iload_n 1, 1) := by decide +kernel
theorem d_T_addLine_20 : decode md_T_addLine.2.1 20 = .ok (.aload_n 0, 1) := by decide +kernel
theorem d_T_addLine_21 : decode md_T_addLine.2.1 21 = .ok (.getfield 15, 3) := by decide +kernel
theorem d_T_addLine_24 : decode md_T_addLine.2.1 24 = .ok (.if_icmp .ge 7, 3) := by decide +kernel
theorem d_T_addLine_27 : decode md_T_addLine.2.1 27 = .ok (.iload_n 1, 1) := by decide +kernel
theorem d_T_addLine_28 : decode md_T_addLine.2.1 28 = .ok (.goto 4, 3) := by decide +kernel
theorem d_T_addLine_31 : decode md_T_addLine.2.1 31 = .ok (.iconst (-1), 1) := by decide +kernel
theorem d_T_addLine_32 : decode md_T_addLine.2.1 32 = .ok (.ireturn, 1) := by decide +kernel
theorem d_T_set_0 : decode md_T_set.2.1 0 = .ok (.aload_n 0, 1) := by decide +kernel
theorem d_T_set_1 : decode md_T_set.2.1 1 = .ok (.getfield 21, 3) := by decide +kernel
theorem d_T_set_4 : decode md_T_set.2.1 4 = .ok (.iload_n 1, 1) := by decide +kernel
theorem d_T_set_5 : decode md_T_set.2.1 5 = .ok (.aload_n 0, 1) := by decide +kernel
theorem d_T_set_6 : decode md_T_set.2.1 6 = .ok (.getfield 18, 3) := by decide +kernel
theorem d_T_set_9 : decode md_T_set.2.1 9 = .ok (.imul, 1) := by decide +kernel
theorem d_T_set_10 : decode md_T_set.2.1 10 = .ok (.iload_n 2, 1) := by decide +kernel
theorem d_T_set_11 : decode md_T_set.2.1 11 = .ok (.iadd, 1) := by decide +kernel
theorem d_T_set_12 : decode md_T_set.2.1 12 = .ok (.lload_n 3, 1) := by decide +kernel
theorem d_T_set_13 : decode md_T_set.2.1 13 = .ok (.lastore, 1) := by decide +kernel
theorem d_T_set_14 : decode md_T_set.2.1 14 = .ok (.return_, 1) := by decide +kernel
theorem d_K_turnAway_0 : decode md_K_turnAway.2.1 0 = .ok (.iload_n 1, 1) := by decide +kernel
theorem d_K_turnAway_1 : decode md_K_turnAway.2.1 1 = .ok (.tableswitch 123 2 6 #[35, 48, 61, 82, 110], 35) := by decide +kernel
theorem d_K_turnAway_36 : decode md_K_turnAway.2.1 36 = .ok (.aload_n 0, 1) := by decide +kernel
theorem d_K_turnAway_37 : decode md_K_turnAway.2.1 37 = .ok (.lload_n 2, 1) := by decide +kernel
theorem d_K_turnAway_38 : decode md_K_turnAway.2.1 38 = .ok (.lload 4, 2) := by decide +kernel
theorem d_K_turnAway_40 : decode md_K_turnAway.2.1 40 = .ok (.lload 6, 2) := by decide +kernel
theorem d_K_turnAway_42 : decode md_K_turnAway.2.1 42 = .ok (.iconst (-1), 1) := by decide +kernel
theorem d_K_turnAway_43 : decode md_K_turnAway.2.1 43 = .ok (.invokevirtual 278, 3) := by decide +kernel
theorem d_K_turnAway_46 : decode md_K_turnAway.2.1 46 = .ok (.goto 78, 3) := by decide +kernel
theorem d_K_turnAway_49 : decode md_K_turnAway.2.1 49 = .ok (.aload_n 0, 1) := by decide +kernel
theorem d_K_turnAway_50 : decode md_K_turnAway.2.1 50 = .ok (.dup, 1) := by decide +kernel
theorem d_K_turnAway_51 : decode md_K_turnAway.2.1 51 = .ok (.getfield 60, 3) := by decide +kernel
theorem d_K_turnAway_54 : decode md_K_turnAway.2.1 54 = .ok (.iconst 1, 1) := by decide +kernel
theorem d_K_turnAway_55 : decode md_K_turnAway.2.1 55 = .ok (.iadd, 1) := by decide +kernel
theorem d_K_turnAway_56 : decode md_K_turnAway.2.1 56 = .ok (.putfield 60, 3) := by decide +kernel
theorem d_K_turnAway_59 : decode md_K_turnAway.2.1 59 = .ok (.goto 65, 3) := by decide +kernel
theorem d_K_turnAway_62 : decode md_K_turnAway.2.1 62 = .ok (.aload_n 0, 1) := by decide +kernel
theorem d_K_turnAway_63 : decode md_K_turnAway.2.1 63 = .ok (.dup, 1) := by decide +kernel
theorem d_K_turnAway_64 : decode md_K_turnAway.2.1 64 = .ok (.getfield 63, 3) := by decide +kernel
theorem d_K_turnAway_67 : decode md_K_turnAway.2.1 67 = .ok (.iconst 1, 1) := by decide +kernel
theorem d_K_turnAway_68 : decode md_K_turnAway.2.1 68 = .ok (.iadd, 1) := by decide +kernel
theorem d_K_turnAway_69 : decode md_K_turnAway.2.1 69 = .ok (.putfield 63, 3) := by decide +kernel
theorem d_K_turnAway_72 : decode md_K_turnAway.2.1 72 = .ok (.aload_n 0, 1) := by decide +kernel
theorem d_K_turnAway_73 : decode md_K_turnAway.2.1 73 = .ok (.getfield 22, 3) := by decide +kernel
theorem d_K_turnAway_76 : decode md_K_turnAway.2.1 76 = .ok (.lload_n 2, 1) := by decide +kernel
theorem d_K_turnAway_77 : decode md_K_turnAway.2.1 77 = .ok (.invokevirtual 282, 3) := by decide +kernel
theorem d_K_turnAway_80 : decode md_K_turnAway.2.1 80 = .ok (.goto 44, 3) := by decide +kernel
theorem d_K_turnAway_83 : decode md_K_turnAway.2.1 83 = .ok (.aload_n 0, 1) := by decide +kernel
theorem d_K_turnAway_84 : decode md_K_turnAway.2.1 84 = .ok (.dup, 1) := by decide +kernel
theorem d_K_turnAway_85 : decode md_K_turnAway.2.1 85 = .ok (.getfield 63, 3) := by decide +kernel
theorem d_K_turnAway_88 : decode md_K_turnAway.2.1 88 = .ok (.iconst 1, 1) := by decide +kernel
theorem d_K_turnAway_89 : decode md_K_turnAway.2.1 89 = .ok (.iadd, 1) := by decide +kernel
theorem d_K_turnAway_90 : decode md_K_turnAway.2.1 90 = .ok (.putfield 63, 3) := by decide +kernel
theorem d_K_turnAway_93 : decode md_K_turnAway.2.1 93 = .ok (.aload_n 0, 1) := by decide +kernel
theorem d_K_turnAway_94 : decode md_K_turnAway.2.1 94 = .ok (.lload_n 2, 1) := by decide +kernel
theorem d_K_turnAway_95 : decode md_K_turnAway.2.1 95 = .ok (.lload 4, 2) := by decide +kernel
theorem d_K_turnAway_97 : decode md_K_turnAway.2.1 97 = .ok (.lload 6, 2) := by decide +kernel
theorem d_K_turnAway_99 : decode md_K_turnAway.2.1 99 = .ok (.aload_n 0, 1) := by decide +kernel
theorem d_K_turnAway_100 : decode md_K_turnAway.2.1 100 = .ok (.lload 6, 2) := by decide +kernel
theorem d_K_turnAway_102 : decode md_K_turnAway.2.1 102 = .ok (.invokevirtual 275, 3) := by decide +kernel
theorem d_K_turnAway_105 : decode md_K_turnAway.2.1 105 = .ok (.invokevirtual 278, 3) := by decide +kernel
theorem d_K_turnAway_108 : decode md_K_turnAway.2.1 108 = .ok (.goto 16, 3) := by decide +kernel
theorem d_K_turnAway_111 : decode md_K_turnAway.2.1 111 = .ok (.aload_n 0, 1) := by decide +kernel
theorem d_K_turnAway_112 : decode md_K_turnAway.2.1 112 = .ok (.dup, 1) := by decide +kernel
theorem d_K_turnAway_113 : decode md_K_turnAway.2.1 113 = .ok (.getfield 63, 3) := by decide +kernel
theorem d_K_turnAway_116 : decode md_K_turnAway.2.1 116 = .ok (.iconst 1, 1) := by decide +kernel
theorem d_K_turnAway_117 : decode md_K_turnAway.2.1 117 = .ok (.iadd, 1) := by decide +kernel
theorem d_K_turnAway_118 : decode md_K_turnAway.2.1 118 = .ok (.putfield 63, 3) := by decide +kernel
theorem d_K_turnAway_121 : decode md_K_turnAway.2.1 121 = .ok (.goto 3, 3) := by decide +kernel
theorem d_K_turnAway_124 : decode md_K_turnAway.2.1 124 = .ok (.return_, 1) := by decide +kernel
theorem d_K_putAside_0 : decode md_K_putAside.2.1 0 = .ok (.aload_n 0, 1) := by decide +kernel
theorem d_K_putAside_1 : decode md_K_putAside.2.1 1 = .ok (.getfield 31, 3) := by decide +kernel
theorem d_K_putAside_4 : decode md_K_putAside.2.1 4 = .ok (.invokevirtual 284, 3) := by decide +kernel
theorem d_K_putAside_7 : decode md_K_putAside.2.1 7 = .ok (.istore 8, 2) := by decide +kernel
theorem d_K_putAside_9 : decode md_K_putAside.2.1 9 = .ok (.iload 8, 2) := by decide +kernel
theorem d_K_putAside_11 : decode md_K_putAside.2.1 11 = .ok (.iconst (-1), 1) := by decide +kernel
theorem d_K_putAside_12 : decode md_K_putAside.2.1 12 = .ok (.if_icmp .eq 50, 3) := by decide +kernel
theorem d_K_putAside_15 : decode md_K_putAside.2.1 15 = .ok (.aload_n 0, 1) := by decide +kernel
theorem d_K_putAside_16 : decode md_K_putAside.2.1 16 = .ok (.getfield 31, 3) := by decide +kernel
theorem d_K_putAside_19 : decode md_K_putAside.2.1 19 = .ok (.iload 8, 2) := by decide +kernel
theorem d_K_putAside_21 : decode md_K_putAside.2.1 21 = .ok (.iconst 0, 1) := by decide +kernel
theorem d_K_putAside_22 : decode md_K_putAside.2.1 22 = .ok (.lload_n 1, 1) := by decide +kernel
theorem d_K_putAside_23 : decode md_K_putAside.2.1 23 = .ok (.invokevirtual 287, 3) := by decide +kernel
theorem d_K_putAside_26 : decode md_K_putAside.2.1 26 = .ok (.aload_n 0, 1) := by decide +kernel
theorem d_K_putAside_27 : decode md_K_putAside.2.1 27 = .ok (.getfield 31, 3) := by decide +kernel
theorem d_K_putAside_30 : decode md_K_putAside.2.1 30 = .ok (.iload 8, 2) := by decide +kernel
theorem d_K_putAside_32 : decode md_K_putAside.2.1 32 = .ok (.iconst 1, 1) := by decide +kernel
theorem d_K_putAside_33 : decode md_K_putAside.2.1 33 = .ok (.lload_n 3, 1) := by decide +kernel
theorem d_K_putAside_34 : decode md_K_putAside.2.1 34 = .ok (.invokevirtual 287, 3) := by decide +kernel
theorem d_K_putAside_37 : decode md_K_putAside.2.1 37 = .ok (.aload_n 0, 1) := by decide +kernel
theorem d_K_putAside_38 : decode md_K_putAside.2.1 38 = .ok (.getfield 31, 3) := by decide +kernel
theorem d_K_putAside_41 : decode md_K_putAside.2.1 41 = .ok (.iload 8, 2) := by decide +kernel
theorem d_K_putAside_43 : decode md_K_putAside.2.1 43 = .ok (.iconst 2, 1) := by decide +kernel
theorem d_K_putAside_44 : decode md_K_putAside.2.1 44 = .ok (.lload 5, 2) := by decide +kernel
theorem d_K_putAside_46 : decode md_K_putAside.2.1 46 = .ok (.invokevirtual 287, 3) := by decide +kernel
theorem d_K_putAside_49 : decode md_K_putAside.2.1 49 = .ok (.aload_n 0, 1) := by decide +kernel
theorem d_K_putAside_50 : decode md_K_putAside.2.1 50 = .ok (.getfield 31, 3) := by decide +kernel
theorem d_K_putAside_53 : decode md_K_putAside.2.1 53 = .ok (.iload 8, 2) := by decide +kernel
theorem d_K_putAside_55 : decode md_K_putAside.2.1 55 = .ok (.iconst 3, 1) := by decide +kernel
theorem d_K_putAside_56 : decode md_K_putAside.2.1 56 = .ok (.iload 7, 2) := by decide +kernel
theorem d_K_putAside_58 : decode md_K_putAside.2.1 58 = .ok (.i2l, 1) := by decide +kernel
theorem d_K_putAside_59 : decode md_K_putAside.2.1 59 = .ok (.invokevirtual 287, 3) := by decide +kernel
theorem d_K_putAside_62 : decode md_K_putAside.2.1 62 = .ok (.return_, 1) := by decide +kernel
theorem d_S_add_0 : decode md_S_add.2.1 0 = .ok (.aload_n 0, 1) := by decide +kernel
theorem d_S_add_1 : decode md_S_add.2.1 1 = .ok (.getfield 15, 3) := by decide +kernel
theorem d_S_add_4 : decode md_S_add.2.1 4 = .ok (.sipush 512, 3) := by decide +kernel
theorem d_S_add_7 : decode md_S_add.2.1 7 = .ok (.if_icmp .ge 23, 3) := by decide +kernel
theorem d_S_add_10 : decode md_S_add.2.1 10 = .ok (.aload_n 0, 1) := by decide +kernel
theorem d_S_add_11 : decode md_S_add.2.1 11 = .ok (.getfield 9, 3) := by decide +kernel
theorem d_S_add_14 : decode md_S_add.2.1 14 = .ok (.aload_n 0, 1) := by decide +kernel
theorem d_S_add_15 : decode md_S_add.2.1 15 = .ok (.getfield 15, 3) := by decide +kernel
theorem d_S_add_18 : decode md_S_add.2.1 18 = .ok (.lload_n 1, 1) := by decide +kernel
theorem d_S_add_19 : decode md_S_add.2.1 19 = .ok (.lastore, 1) := by decide +kernel
theorem d_S_add_20 : decode md_S_add.2.1 20 = .ok (.aload_n 0, 1) := by decide +kernel
theorem d_S_add_21 : decode md_S_add.2.1 21 = .ok (.dup, 1) := by decide +kernel
theorem d_S_add_22 : decode md_S_add.2.1 22 = .ok (.getfield 15, 3) := by decide +kernel
theorem d_S_add_25 : decode md_S_add.2.1 25 = .ok (.iconst 1, 1) := by decide +kernel
theorem d_S_add_26 : decode md_S_add.2.1 26 = .ok (.iadd, 1) := by decide +kernel
theorem d_S_add_27 : decode md_S_add.2.1 27 = .ok (.putfield 15, 3) := by decide +kernel
theorem d_S_add_30 : decode md_S_add.2.1 30 = .ok (.return_, 1) := by decide +kernel
theorem d_K_resume_0 : decode md_K_resume.2.1 0 = .ok (.aload_n 0, 1) := by decide +kernel
theorem d_K_resume_1 : decode md_K_resume.2.1 1 = .ok (.getfield 22, 3) := by decide +kernel
theorem d_K_resume_4 : decode md_K_resume.2.1 4 = .ok (.lload_n 1, 1) := by decide +kernel
theorem d_K_resume_5 : decode md_K_resume.2.1 5 = .ok (.invokevirtual 154, 3) := by decide +kernel
theorem d_K_resume_8 : decode md_K_resume.2.1 8 = .ok (.ifCond .ne 13, 3) := by decide +kernel
theorem d_K_resume_11 : decode md_K_resume.2.1 11 = .ok (.new 96, 3) := by decide +kernel
theorem d_K_resume_14 : decode md_K_resume.2.1 14 = .ok (.dup, 1) := by decide +kernel
theorem d_K_resume_15 : decode md_K_resume.2.1 15 = .ok (.ldc 185, 2) := by decide +kernel
theorem d_K_resume_17 : decode md_K_resume.2.1 17 = .ok (.invokespecial 100, 3) := by decide +kernel
theorem d_K_resume_20 : decode md_K_resume.2.1 20 = .ok (.athrow, 1) := by decide +kernel
theorem d_K_resume_21 : decode md_K_resume.2.1 21 = .ok (.aload_n 0, 1) := by decide +kernel
theorem d_K_resume_22 : decode md_K_resume.2.1 22 = .ok (.getfield 22, 3) := by decide +kernel
theorem d_K_resume_25 : decode md_K_resume.2.1 25 = .ok (.lload_n 1, 1) := by decide +kernel
theorem d_K_resume_26 : decode md_K_resume.2.1 26 = .ok (.invokevirtual 187, 3) := by decide +kernel
theorem d_K_resume_29 : decode md_K_resume.2.1 29 = .ok (.return_, 1) := by decide +kernel
theorem d_S_remove_0 : decode md_S_remove.2.1 0 = .ok (.aload_n 0, 1) := by decide +kernel
theorem d_S_remove_1 : decode md_S_remove.2.1 1 = .ok (.lload_n 1, 1) := by decide +kernel
theorem d_S_remove_2 : decode md_S_remove.2.1 2 = .ok (.invokevirtual 19, 3) := by decide +kernel
theorem d_S_remove_5 : decode md_S_remove.2.1 5 = .ok (.istore_n 3, 1) := by decide +kernel
theorem d_S_remove_6 : decode md_S_remove.2.1 6 = .ok (.iload_n 3, 1) := by decide +kernel
theorem d_S_remove_7 : decode md_S_remove.2.1 7 = .ok (.iconst (-1), 1) := by decide +kernel
theorem d_S_remove_8 : decode md_S_remove.2.1 8 = .ok (.if_icmp .eq 28, 3) := by decide +kernel
theorem d_S_remove_11 : decode md_S_remove.2.1 11 = .ok (.aload_n 0, 1) := by decide +kernel
theorem d_S_remove_12 : decode md_S_remove.2.1 12 = .ok (.dup, 1) := by decide +kernel
theorem d_S_remove_13 : decode md_S_remove.2.1 13 = .ok (.getfield 15, 3) := by decide +kernel
theorem d_S_remove_16 : decode md_S_remove.2.1 16 = .ok (.iconst 1, 1) := by decide +kernel
theorem d_S_remove_17 : decode md_S_remove.2.1 17 = .ok (.isub, 1) := by decide +kernel
theorem d_S_remove_18 : decode md_S_remove.2.1 18 = .ok (.putfield 15, 3) := by decide +kernel
theorem d_S_remove_21 : decode md_S_remove.2.1 21 = .ok (.aload_n 0, 1) := by decide +kernel
theorem d_S_remove_22 : decode md_S_remove.2.1 22 = .ok (.getfield 9, 3) := by decide +kernel
theorem d_S_remove_25 : decode md_S_remove.2.1 25 = .ok (.iload_n 3, 1) := by decide +kernel
theorem d_S_remove_26 : decode md_S_remove.2.1 26 = .ok (.aload_n 0, 1) := by decide +kernel
theorem d_S_remove_27 : decode md_S_remove.2.1 27 = .ok (.getfield 9, 3) := by decide +kernel
theorem d_S_remove_30 : decode md_S_remove.2.1 30 = .ok (.aload_n 0, 1) := by decide +kernel
theorem d_S_remove_31 : decode md_S_remove.2.1 31 = .ok (.getfield 15, 3) := by decide +kernel
theorem d_S_remove_34 : decode md_S_remove.2.1 34 = .ok (.laload, 1) := by decide +kernel
theorem d_S_remove_35 : decode md_S_remove.2.1 35 = .ok (.lastore, 1) := by decide +kernel
theorem d_S_remove_36 : decode md_S_remove.2.1 36 = .ok (.return_, 1) := by decide +kernel
theorem d_K_state_0 : decode md_K_state.2.1 0 = .ok (.aload_n 0, 1) := by decide +kernel
theorem d_K_state_1 : decode md_K_state.2.1 1 = .ok (.iload_n 3, 1) := by decide +kernel
theorem d_K_state_2 : decode md_K_state.2.1 2 = .ok (.invokevirtual 116, 3) := by decide +kernel
theorem d_K_state_5 : decode md_K_state.2.1 5 = .ok (.ifCond .ne 13, 3) := by decide +kernel
theorem d_K_state_8 : decode md_K_state.2.1 8 = .ok (.new 120, 3) := by decide +kernel
theorem d_K_state_11 : decode md_K_state.2.1 11 = .ok (.dup, 1) := by decide +kernel
theorem d_K_state_12 : decode md_K_state.2.1 12 = .ok (.ldc 122, 2) := by decide +kernel
theorem d_K_state_14 : decode md_K_state.2.1 14 = .ok (.invokespecial 124, 3) := by decide +kernel
theorem d_K_state_17 : decode md_K_state.2.1 17 = .ok (.athrow, 1) := by decide +kernel
theorem d_K_state_18 : decode md_K_state.2.1 18 = .ok (.aload_n 0, 1) := by decide +kernel
theorem d_K_state_19 : decode md_K_state.2.1 19 = .ok (.lload_n 1, 1) := by decide +kernel
theorem d_K_state_20 : decode md_K_state.2.1 20 = .ok (.invokevirtual 190, 3) := by decide +kernel
theorem d_K_state_23 : decode md_K_state.2.1 23 = .ok (.istore 4, 2) := by decide +kernel
theorem d_K_state_25 : decode md_K_state.2.1 25 = .ok (.iload 4, 2) := by decide +kernel
theorem d_K_state_27 : decode md_K_state.2.1 27 = .ok (.ifCond .ge 13, 3) := by decide +kernel
theorem d_K_state_30 : decode md_K_state.2.1 30 = .ok (.new 120, 3) := by decide +kernel
theorem d_K_state_33 : decode md_K_state.2.1 33 = .ok (.dup, 1) := by decide +kernel
theorem d_K_state_34 : decode md_K_state.2.1 34 = .ok (.ldc 194, 2) := by decide +kernel
theorem d_K_state_36 : decode md_K_state.2.1 36 = .ok (.invokespecial 124, 3) := by decide +kernel
theorem d_K_state_39 : decode md_K_state.2.1 39 = .ok (.athrow, 1) := by decide +kernel
theorem d_K_state_40 : decode md_K_state.2.1 40 = .ok (.aload_n 0, 1) := by decide +kernel
theorem d_K_state_41 : decode md_K_state.2.1 41 = .ok (.getfield 16, 3) := by decide +kernel
theorem d_K_state_44 : decode md_K_state.2.1 44 = .ok (.iload 4, 2) := by decide +kernel
theorem d_K_state_46 : decode md_K_state.2.1 46 = .ok (.invokevirtual 125, 3) := by decide +kernel
theorem d_K_state_49 : decode md_K_state.2.1 49 = .ok (.checkcast 196, 3) := by decide +kernel
theorem d_K_state_52 : decode md_K_state.2.1 52 = .ok (.getfield 198, 3) := by decide +kernel
theorem d_K_state_55 : decode md_K_state.2.1 55 = .ok (.iload_n 3, 1) := by decide +kernel
theorem d_K_state_56 : decode md_K_state.2.1 56 = .ok (.laload, 1) := by decide +kernel
theorem d_K_state_57 : decode md_K_state.2.1 57 = .ok (.lreturn, 1) := by decide +kernel
theorem d_K_key_0 : decode md_K_key.2.1 0 = .ok (.iload_n 3, 1) := by decide +kernel
theorem d_K_key_1 : decode md_K_key.2.1 1 = .ok (.ifCond .lt 8, 3) := by decide +kernel
theorem d_K_key_4 : decode md_K_key.2.1 4 = .ok (.iload_n 3, 1) := by decide +kernel
theorem d_K_key_5 : decode md_K_key.2.1 5 = .ok (.iconst 2, 1) := by decide +kernel
theorem d_K_key_6 : decode md_K_key.2.1 6 = .ok (.if_icmp .le 13, 3) := by decide +kernel
theorem d_K_key_9 : decode md_K_key.2.1 9 = .ok (.new 85, 3) := by decide +kernel
theorem d_K_key_12 : decode md_K_key.2.1 12 = .ok (.dup, 1) := by decide +kernel
theorem d_K_key_13 : decode md_K_key.2.1 13 = .ok (.ldc 202, 2) := by decide +kernel
theorem d_K_key_15 : decode md_K_key.2.1 15 = .ok (.invokespecial 89, 3) := by decide +kernel
theorem d_K_key_18 : decode md_K_key.2.1 18 = .ok (.athrow, 1) := by decide +kernel
theorem d_K_key_19 : decode md_K_key.2.1 19 = .ok (.iload_n 3, 1) := by decide +kernel
theorem d_K_key_20 : decode md_K_key.2.1 20 = .ok (.iconst 2, 1) := by decide +kernel
theorem d_K_key_21 : decode md_K_key.2.1 21 = .ok (.if_icmp .ne 20, 3) := by decide +kernel
theorem d_K_key_24 : decode md_K_key.2.1 24 = .ok (.aload_n 0, 1) := by decide +kernel
theorem d_K_key_25 : decode md_K_key.2.1 25 = .ok (.getfield 22, 3) := by decide +kernel
theorem d_K_key_28 : decode md_K_key.2.1 28 = .ok (.lload_n 1, 1) := by decide +kernel
theorem d_K_key_29 : decode md_K_key.2.1 29 = .ok (.invokevirtual 154, 3) := by decide +kernel
theorem d_K_key_32 : decode md_K_key.2.1 32 = .ok (.ifCond .eq 7, 3) := by decide +kernel
theorem d_K_key_35 : decode md_K_key.2.1 35 = .ok (.iconst 1, 1) := by decide +kernel
theorem d_K_key_36 : decode md_K_key.2.1 36 = .ok (.goto 4, 3) := by decide +kernel
theorem d_K_key_39 : decode md_K_key.2.1 39 = .ok (.iconst 0, 1) := by decide +kernel
theorem d_K_key_40 : decode md_K_key.2.1 40 = .ok (.ireturn, 1) := by decide +kernel
theorem d_K_key_41 : decode md_K_key.2.1 41 = .ok (.aload_n 0, 1) := by decide +kernel
theorem d_K_key_42 : decode md_K_key.2.1 42 = .ok (.lload_n 1, 1) := by decide +kernel
theorem d_K_key_43 : decode md_K_key.2.1 43 = .ok (.invokevirtual 190, 3) := by decide +kernel
theorem d_K_key_46 : decode md_K_key.2.1 46 = .ok (.istore 4, 2) := by decide +kernel
theorem d_K_key_48 : decode md_K_key.2.1 48 = .ok (.iload 4, 2) := by decide +kernel
theorem d_K_key_50 : decode md_K_key.2.1 50 = .ok (.ifCond .ge 5, 3) := by decide +kernel
theorem d_K_key_53 : decode md_K_key.2.1 53 = .ok (.iconst 0, 1) := by decide +kernel
theorem d_K_key_54 : decode md_K_key.2.1 54 = .ok (.ireturn, 1) := by decide +kernel
theorem d_K_key_55 : decode md_K_key.2.1 55 = .ok (.iload_n 3, 1) := by decide +kernel
theorem d_K_key_56 : decode md_K_key.2.1 56 = .ok (.ifCond .ne 21, 3) := by decide +kernel
theorem d_K_key_59 : decode md_K_key.2.1 59 = .ok (.aload_n 0, 1) := by decide +kernel
theorem d_K_key_60 : decode md_K_key.2.1 60 = .ok (.getfield 16, 3) := by decide +kernel
theorem d_K_key_63 : decode md_K_key.2.1 63 = .ok (.iload 4, 2) := by decide +kernel
theorem d_K_key_65 : decode md_K_key.2.1 65 = .ok (.invokevirtual 125, 3) := by decide +kernel
theorem d_K_key_68 : decode md_K_key.2.1 68 = .ok (.checkcast 196, 3) := by decide +kernel
theorem d_K_key_71 : decode md_K_key.2.1 71 = .ok (.getfield 204, 3) := by decide +kernel
theorem d_K_key_74 : decode md_K_key.2.1 74 = .ok (.goto 18, 3) := by decide +kernel
theorem d_K_key_77 : decode md_K_key.2.1 77 = .ok (.aload_n 0, 1) := by decide +kernel
theorem d_K_key_78 : decode md_K_key.2.1 78 = .ok (.getfield 16, 3) := by decide +kernel
theorem d_K_key_81 : decode md_K_key.2.1 81 = .ok (.iload 4, 2) := by decide +kernel
theorem d_K_key_83 : decode md_K_key.2.1 83 = .ok (.invokevirtual 125, 3) := by decide +kernel
theorem d_K_key_86 : decode md_K_key.2.1 86 = .ok (.checkcast 196, 3) := by decide +kernel
theorem d_K_key_89 : decode md_K_key.2.1 89 = .ok (.getfield 207, 3) := by decide +kernel
theorem d_K_key_92 : decode md_K_key.2.1 92 = .ok (.ireturn, 1) := by decide +kernel
theorem d_K_rowOf_0 : decode md_K_rowOf.2.1 0 = .ok (.aload_n 0, 1) := by decide +kernel
theorem d_K_rowOf_1 : decode md_K_rowOf.2.1 1 = .ok (.lload_n 1, 1) := by decide +kernel
theorem d_K_rowOf_2 : decode md_K_rowOf.2.1 2 = .ok (.invokevirtual 190, 3) := by decide +kernel
theorem d_K_rowOf_5 : decode md_K_rowOf.2.1 5 = .ok (.istore 5, 2) := by decide +kernel
theorem d_K_rowOf_7 : decode md_K_rowOf.2.1 7 = .ok (.iload 5, 2) := by decide +kernel
theorem d_K_rowOf_9 : decode md_K_rowOf.2.1 9 = .ok (.ifCond .ge 13, 3) := by decide +kernel
theorem d_K_rowOf_12 : decode md_K_rowOf.2.1 12 = .ok (.new 120, 3) := by decide +kernel
theorem d_K_rowOf_15 : decode md_K_rowOf.2.1 15 = .ok (.dup, 1) := by decide +kernel
theorem d_K_rowOf_16 : decode md_K_rowOf.2.1 16 = .ok (.ldc 194, 2) := by decide +kernel
theorem d_K_rowOf_18 : decode md_K_rowOf.2.1 18 = .ok (.invokespecial 124, 3) := by decide +kernel
theorem d_K_rowOf_21 : decode md_K_rowOf.2.1 21 = .ok (.athrow, 1) := by decide +kernel
theorem d_K_rowOf_22 : decode md_K_rowOf.2.1 22 = .ok (.aload_n 0, 1) := by decide +kernel
theorem d_K_rowOf_23 : decode md_K_rowOf.2.1 23 = .ok (.getfield 16, 3) := by decide +kernel
theorem d_K_rowOf_26 : decode md_K_rowOf.2.1 26 = .ok (.iload 5, 2) := by decide +kernel
theorem d_K_rowOf_28 : decode md_K_rowOf.2.1 28 = .ok (.invokevirtual 125, 3) := by decide +kernel
theorem d_K_rowOf_31 : decode md_K_rowOf.2.1 31 = .ok (.checkcast 196, 3) := by decide +kernel
theorem d_K_rowOf_34 : decode md_K_rowOf.2.1 34 = .ok (.astore 6, 2) := by decide +kernel
theorem d_K_rowOf_36 : decode md_K_rowOf.2.1 36 = .ok (.iload_n 3, 1) := by decide +kernel
theorem d_K_rowOf_37 : decode md_K_rowOf.2.1 37 = .ok (.ifCond .lt 12, 3) := by decide +kernel
theorem d_K_rowOf_40 : decode md_K_rowOf.2.1 40 = .ok (.iload_n 3, 1) := by decide +kernel
theorem d_K_rowOf_41 : decode md_K_rowOf.2.1 41 = .ok (.aload 6, 2) := by decide +kernel
theorem d_K_rowOf_43 : decode md_K_rowOf.2.1 43 = .ok (.getfield 204, 3) := by decide +kernel
theorem d_K_rowOf_46 : decode md_K_rowOf.2.1 46 = .ok (.if_icmp .lt 13, 3) := by decide +kernel
theorem d_K_rowOf_49 : decode md_K_rowOf.2.1 49 = .ok (.new 120, 3) := by decide +kernel
theorem d_K_rowOf_52 : decode md_K_rowOf.2.1 52 = .ok (.dup, 1) := by decide +kernel
theorem d_K_rowOf_53 : decode md_K_rowOf.2.1 53 = .ok (.ldc 210, 2) := by decide +kernel
theorem d_K_rowOf_55 : decode md_K_rowOf.2.1 55 = .ok (.invokespecial 124, 3) := by decide +kernel
theorem d_K_rowOf_58 : decode md_K_rowOf.2.1 58 = .ok (.athrow, 1) := by decide +kernel
theorem d_K_rowOf_59 : decode md_K_rowOf.2.1 59 = .ok (.iload 4, 2) := by decide +kernel
theorem d_K_rowOf_61 : decode md_K_rowOf.2.1 61 = .ok (.ifCond .lt 9, 3) := by decide +kernel
theorem d_K_rowOf_64 : decode md_K_rowOf.2.1 64 = .ok (.iload 4, 2) := by decide +kernel
theorem d_K_rowOf_66 : decode md_K_rowOf.2.1 66 = .ok (.iconst 1, 1) := by decide +kernel
theorem d_K_rowOf_67 : decode md_K_rowOf.2.1 67 = .ok (.if_icmp .le 13, 3) := by decide +kernel
theorem d_K_rowOf_70 : decode md_K_rowOf.2.1 70 = .ok (.new 120, 3) := by decide +kernel
theorem d_K_rowOf_73 : decode md_K_rowOf.2.1 73 = .ok (.dup, 1) := by decide +kernel
theorem d_K_rowOf_74 : decode md_K_rowOf.2.1 74 = .ok (.ldc 212, 2) := by decide +kernel
theorem d_K_rowOf_76 : decode md_K_rowOf.2.1 76 = .ok (.invokespecial 124, 3) := by decide +kernel
theorem d_K_rowOf_79 : decode md_K_rowOf.2.1 79 = .ok (.athrow, 1) := by decide +kernel
theorem d_K_rowOf_80 : decode md_K_rowOf.2.1 80 = .ok (.iload 4, 2) := by decide +kernel
theorem d_K_rowOf_82 : decode md_K_rowOf.2.1 82 = .ok (.ifCond .ne 13, 3) := by decide +kernel
theorem d_K_rowOf_85 : decode md_K_rowOf.2.1 85 = .ok (.aload 6, 2) := by decide +kernel
theorem d_K_rowOf_87 : decode md_K_rowOf.2.1 87 = .ok (.getfield 214, 3) := by decide +kernel
theorem d_K_rowOf_90 : decode md_K_rowOf.2.1 90 = .ok (.iload_n 3, 1) := by decide +kernel
theorem d_K_rowOf_91 : decode md_K_rowOf.2.1 91 = .ok (.laload, 1) := by decide +kernel
theorem d_K_rowOf_92 : decode md_K_rowOf.2.1 92 = .ok (.goto 10, 3) := by decide +kernel
theorem d_K_rowOf_95 : decode md_K_rowOf.2.1 95 = .ok (.aload 6, 2) := by decide +kernel
theorem d_K_rowOf_97 : decode md_K_rowOf.2.1 97 = .ok (.getfield 217, 3) := by decide +kernel
theorem d_K_rowOf_100 : decode md_K_rowOf.2.1 100 = .ok (.iload_n 3, 1) := by decide +kernel
theorem d_K_rowOf_101 : decode md_K_rowOf.2.1 101 = .ok (.laload, 1) := by decide +kernel
theorem d_K_rowOf_102 : decode md_K_rowOf.2.1 102 = .ok (.lreturn, 1) := by decide +kernel
theorem d_K_aside_0 : decode md_K_aside.2.1 0 = .ok (.aload_n 0, 1) := by decide +kernel
theorem d_K_aside_1 : decode md_K_aside.2.1 1 = .ok (.getfield 31, 3) := by decide +kernel
theorem d_K_aside_4 : decode md_K_aside.2.1 4 = .ok (.iload_n 1, 1) := by decide +kernel
theorem d_K_aside_5 : decode md_K_aside.2.1 5 = .ok (.invokevirtual 220, 3) := by decide +kernel
theorem d_K_aside_8 : decode md_K_aside.2.1 8 = .ok (.ifCond .ne 13, 3) := by decide +kernel
theorem d_K_aside_11 : decode md_K_aside.2.1 11 = .ok (.new 120, 3) := by decide +kernel
theorem d_K_aside_14 : decode md_K_aside.2.1 14 = .ok (.dup, 1) := by decide +kernel
theorem d_K_aside_15 : decode md_K_aside.2.1 15 = .ok (.ldc 223, 2) := by decide +kernel
theorem d_K_aside_17 : decode md_K_aside.2.1 17 = .ok (.invokespecial 124, 3) := by decide +kernel
theorem d_K_aside_20 : decode md_K_aside.2.1 20 = .ok (.athrow, 1) := by decide +kernel
theorem d_K_aside_21 : decode md_K_aside.2.1 21 = .ok (.iload_n 2, 1) := by decide +kernel
theorem d_K_aside_22 : decode md_K_aside.2.1 22 = .ok (.ifCond .lt 8, 3) := by decide +kernel
theorem d_K_aside_25 : decode md_K_aside.2.1 25 = .ok (.iload_n 2, 1) := by decide +kernel
theorem d_K_aside_26 : decode md_K_aside.2.1 26 = .ok (.iconst 4, 1) := by decide +kernel
theorem d_K_aside_27 : decode md_K_aside.2.1 27 = .ok (.if_icmp .lt 13, 3) := by decide +kernel
theorem d_K_aside_30 : decode md_K_aside.2.1 30 = .ok (.new 120, 3) := by decide +kernel
theorem d_K_aside_33 : decode md_K_aside.2.1 33 = .ok (.dup, 1) := by decide +kernel
theorem d_K_aside_34 : decode md_K_aside.2.1 34 = .ok (.ldc 225, 2) := by decide +kernel
theorem d_K_aside_36 : decode md_K_aside.2.1 36 = .ok (.invokespecial 124, 3) := by decide +kernel
theorem d_K_aside_39 : decode md_K_aside.2.1 39 = .ok (.athrow, 1) := by decide +kernel
theorem d_K_aside_40 : decode md_K_aside.2.1 40 = .ok (.aload_n 0, 1) := by decide +kernel
theorem d_K_aside_41 : decode md_K_aside.2.1 41 = .ok (.getfield 31, 3) := by decide +kernel
theorem d_K_aside_44 : decode md_K_aside.2.1 44 = .ok (.iload_n 1, 1) := by decide +kernel
theorem d_K_aside_45 : decode md_K_aside.2.1 45 = .ok (.iload_n 2, 1) := by decide +kernel
theorem d_K_aside_46 : decode md_K_aside.2.1 46 = .ok (.invokevirtual 227, 3) := by decide +kernel
theorem d_K_aside_49 : decode md_K_aside.2.1 49 = .ok (.lreturn, 1) := by decide +kernel
theorem d_T_keeps_0 : decode md_T_keeps.2.1 0 = .ok (.iload_n 1, 1) := by decide +kernel
theorem d_T_keeps_1 : decode md_T_keeps.2.1 1 = .ok (.ifCond .lt 23, 3) := by decide +kernel
theorem d_T_keeps_4 : decode md_T_keeps.2.1 4 = .ok (.iload_n 1, 1) := by decide +kernel
theorem d_T_keeps_5 : decode md_T_keeps.2.1 5 = .ok (.aload_n 0, 1) := by decide +kernel
