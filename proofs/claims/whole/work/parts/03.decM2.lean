theorem d_M_take_239 : decode md_M_take.2.1 239 = .ok (.aload_n 0, 1) := by decide +kernel
theorem d_M_take_240 : decode md_M_take.2.1 240 = .ok (.lload 8, 2) := by decide +kernel
theorem d_M_take_242 : decode md_M_take.2.1 242 = .ok (.putfield 114, 3) := by decide +kernel
theorem d_M_take_245 : decode md_M_take.2.1 245 = .ok (.aload_n 0, 1) := by decide +kernel
theorem d_M_take_246 : decode md_M_take.2.1 246 = .ok (.iconst 1, 1) := by decide +kernel
theorem d_M_take_247 : decode md_M_take.2.1 247 = .ok (.putfield 110, 3) := by decide +kernel
theorem d_M_take_250 : decode md_M_take.2.1 250 = .ok (.aload_n 0, 1) := by decide +kernel
theorem d_M_take_251 : decode md_M_take.2.1 251 = .ok (.getfield 58, 3) := by decide +kernel
theorem d_M_take_254 : decode md_M_take.2.1 254 = .ok (.ifCond .le 27, 3) := by decide +kernel
theorem d_M_take_257 : decode md_M_take.2.1 257 = .ok (.iconst 0, 1) := by decide +kernel
theorem d_M_take_258 : decode md_M_take.2.1 258 = .ok (.istore 10, 2) := by decide +kernel
theorem d_M_take_260 : decode md_M_take.2.1 260 = .ok (.iload 10, 2) := by decide +kernel
theorem d_M_take_262 : decode md_M_take.2.1 262 = .ok (.aload_n 0, 1) := by decide +kernel
theorem d_M_take_263 : decode md_M_take.2.1 263 = .ok (.getfield 74, 3) := by decide +kernel
theorem d_M_take_266 : decode md_M_take.2.1 266 = .ok (.if_icmp .ge 15, 3) := by decide +kernel
theorem d_M_take_269 : decode md_M_take.2.1 269 = .ok (.aload_n 0, 1) := by decide +kernel
theorem d_M_take_270 : decode md_M_take.2.1 270 = .ok (.iload 10, 2) := by decide +kernel
theorem d_M_take_272 : decode md_M_take.2.1 272 = .ok (.invokevirtual 148, 3) := by decide +kernel
theorem d_M_take_275 : decode md_M_take.2.1 275 = .ok (.iinc 10 1, 3) := by decide +kernel
theorem d_M_take_278 : decode md_M_take.2.1 278 = .ok (.goto (-18), 3) := by decide +kernel
theorem d_M_take_281 : decode md_M_take.2.1 281 = .ok (.aload_n 0, 1) := by decide +kernel
theorem d_M_take_282 : decode md_M_take.2.1 282 = .ok (.getfield 64, 3) := by decide +kernel
theorem d_M_take_285 : decode md_M_take.2.1 285 = .ok (.ifCond .le 7, 3) := by decide +kernel
theorem d_M_take_288 : decode md_M_take.2.1 288 = .ok (.aload_n 0, 1) := by decide +kernel
theorem d_M_take_289 : decode md_M_take.2.1 289 = .ok (.invokevirtual 152, 3) := by decide +kernel
theorem d_M_take_292 : decode md_M_take.2.1 292 = .ok (.return_, 1) := by decide +kernel
theorem d_M_mayBeJoined_0 : decode md_M_mayBeJoined.2.1 0 = .ok (.iload_n 1, 1) := by decide +kernel
theorem d_M_mayBeJoined_1 : decode md_M_mayBeJoined.2.1 1 = .ok (.iconst 2, 1) := by decide +kernel
theorem d_M_mayBeJoined_2 : decode md_M_mayBeJoined.2.1 2 = .ok (.if_icmp .le 15, 3) := by decide +kernel
theorem d_M_mayBeJoined_5 : decode md_M_mayBeJoined.2.1 5 = .ok (.iload_n 1, 1) := by decide +kernel
theorem d_M_mayBeJoined_6 : decode md_M_mayBeJoined.2.1 6 = .ok (.bipush 6, 2) := by decide +kernel
theorem d_M_mayBeJoined_8 : decode md_M_mayBeJoined.2.1 8 = .ok (.if_icmp .eq 9, 3) := by decide +kernel
theorem d_M_mayBeJoined_11 : decode md_M_mayBeJoined.2.1 11 = .ok (.iload_n 1, 1) := by decide +kernel
theorem d_M_mayBeJoined_12 : decode md_M_mayBeJoined.2.1 12 = .ok (.bipush 7, 2) := by decide +kernel
theorem d_M_mayBeJoined_14 : decode md_M_mayBeJoined.2.1 14 = .ok (.if_icmp .ne 7, 3) := by decide +kernel
theorem d_M_mayBeJoined_17 : decode md_M_mayBeJoined.2.1 17 = .ok (.iconst 1, 1) := by decide +kernel
theorem d_M_mayBeJoined_18 : decode md_M_mayBeJoined.2.1 18 = .ok (.goto 4, 3) := by decide +kernel
theorem d_M_mayBeJoined_21 : decode md_M_mayBeJoined.2.1 21 = .ok (.iconst 0, 1) := by decide +kernel
theorem d_M_mayBeJoined_22 : decode md_M_mayBeJoined.2.1 22 = .ok (.ireturn, 1) := by decide +kernel
theorem d_M_leave_0 : decode md_M_leave.2.1 0 = .ok (.iconst 0, 1) := by decide +kernel
theorem d_M_leave_1 : decode md_M_leave.2.1 1 = .ok (.istore_n 2, 1) := by decide +kernel
theorem d_M_leave_2 : decode md_M_leave.2.1 2 = .ok (.iload_n 2, 1) := by decide +kernel
theorem d_M_leave_3 : decode md_M_leave.2.1 3 = .ok (.aload_n 0, 1) := by decide +kernel
theorem d_M_leave_4 : decode md_M_leave.2.1 4 = .ok (.getfield 29, 3) := by decide +kernel
theorem d_M_leave_7 : decode md_M_leave.2.1 7 = .ok (.iload_n 1, 1) := by decide +kernel
theorem d_M_leave_8 : decode md_M_leave.2.1 8 = .ok (.iaload, 1) := by decide +kernel
theorem d_M_leave_9 : decode md_M_leave.2.1 9 = .ok (.if_icmp .ge 34, 3) := by decide +kernel
theorem d_M_leave_12 : decode md_M_leave.2.1 12 = .ok (.aload_n 0, 1) := by decide +kernel
theorem d_M_leave_13 : decode md_M_leave.2.1 13 = .ok (.getfield 35, 3) := by decide +kernel
theorem d_M_leave_16 : decode md_M_leave.2.1 16 = .ok (.bipush 62, 2) := by decide +kernel
theorem d_M_leave_18 : decode md_M_leave.2.1 18 = .ok (.iload_n 1, 1) := by decide +kernel
theorem d_M_leave_19 : decode md_M_leave.2.1 19 = .ok (.imul, 1) := by decide +kernel
theorem d_M_leave_20 : decode md_M_leave.2.1 20 = .ok (.iload_n 2, 1) := by decide +kernel
theorem d_M_leave_21 : decode md_M_leave.2.1 21 = .ok (.iadd, 1) := by decide +kernel
theorem d_M_leave_22 : decode md_M_leave.2.1 22 = .ok (.laload, 1) := by decide +kernel
theorem d_M_leave_23 : decode md_M_leave.2.1 23 = .ok (.aload_n 0, 1) := by decide +kernel
theorem d_M_leave_24 : decode md_M_leave.2.1 24 = .ok (.getfield 114, 3) := by decide +kernel
theorem d_M_leave_27 : decode md_M_leave.2.1 27 = .ok (.aload_n 0, 1) := by decide +kernel
theorem d_M_leave_28 : decode md_M_leave.2.1 28 = .ok (.getfield 58, 3) := by decide +kernel
theorem d_M_leave_31 : decode md_M_leave.2.1 31 = .ok (.i2l, 1) := by decide +kernel
theorem d_M_leave_32 : decode md_M_leave.2.1 32 = .ok (.lsub, 1) := by decide +kernel
theorem d_M_leave_33 : decode md_M_leave.2.1 33 = .ok (.lcmp, 1) := by decide +kernel
theorem d_M_leave_34 : decode md_M_leave.2.1 34 = .ok (.ifCond .ge 9, 3) := by decide +kernel
theorem d_M_leave_37 : decode md_M_leave.2.1 37 = .ok (.iinc 2 1, 3) := by decide +kernel
theorem d_M_leave_40 : decode md_M_leave.2.1 40 = .ok (.goto (-38), 3) := by decide +kernel
theorem d_M_leave_43 : decode md_M_leave.2.1 43 = .ok (.iload_n 2, 1) := by decide +kernel
theorem d_M_leave_44 : decode md_M_leave.2.1 44 = .ok (.ifCond .ne 4, 3) := by decide +kernel
theorem d_M_leave_47 : decode md_M_leave.2.1 47 = .ok (.return_, 1) := by decide +kernel
theorem d_M_leave_48 : decode md_M_leave.2.1 48 = .ok (.aload_n 0, 1) := by decide +kernel
theorem d_M_leave_49 : decode md_M_leave.2.1 49 = .ok (.getfield 29, 3) := by decide +kernel
theorem d_M_leave_52 : decode md_M_leave.2.1 52 = .ok (.iload_n 1, 1) := by decide +kernel
theorem d_M_leave_53 : decode md_M_leave.2.1 53 = .ok (.dup2, 1) := by decide +kernel
theorem d_M_leave_54 : decode md_M_leave.2.1 54 = .ok (.iaload, 1) := by decide +kernel
theorem d_M_leave_55 : decode md_M_leave.2.1 55 = .ok (.iload_n 2, 1) := by decide +kernel
theorem d_M_leave_56 : decode md_M_leave.2.1 56 = .ok (.isub, 1) := by decide +kernel
theorem d_M_leave_57 : decode md_M_leave.2.1 57 = .ok (.iastore, 1) := by decide +kernel
theorem d_M_leave_58 : decode md_M_leave.2.1 58 = .ok (.aload_n 0, 1) := by decide +kernel
theorem d_M_leave_59 : decode md_M_leave.2.1 59 = .ok (.dup, 1) := by decide +kernel
theorem d_M_leave_60 : decode md_M_leave.2.1 60 = .ok (.getfield 155, 3) := by decide +kernel
theorem d_M_leave_63 : decode md_M_leave.2.1 63 = .ok (.iload_n 2, 1) := by decide +kernel
theorem d_M_leave_64 : decode md_M_leave.2.1 64 = .ok (.iadd, 1) := by decide +kernel
theorem d_M_leave_65 : decode md_M_leave.2.1 65 = .ok (.putfield 155, 3) := by decide +kernel
theorem d_M_leave_68 : decode md_M_leave.2.1 68 = .ok (.iconst 0, 1) := by decide +kernel
theorem d_M_leave_69 : decode md_M_leave.2.1 69 = .ok (.istore_n 3, 1) := by decide +kernel
theorem d_M_leave_70 : decode md_M_leave.2.1 70 = .ok (.iload_n 3, 1) := by decide +kernel
theorem d_M_leave_71 : decode md_M_leave.2.1 71 = .ok (.aload_n 0, 1) := by decide +kernel
theorem d_M_leave_72 : decode md_M_leave.2.1 72 = .ok (.getfield 29, 3) := by decide +kernel
theorem d_M_leave_75 : decode md_M_leave.2.1 75 = .ok (.iload_n 1, 1) := by decide +kernel
theorem d_M_leave_76 : decode md_M_leave.2.1 76 = .ok (.iaload, 1) := by decide +kernel
theorem d_M_leave_77 : decode md_M_leave.2.1 77 = .ok (.if_icmp .ge 57, 3) := by decide +kernel
theorem d_M_leave_80 : decode md_M_leave.2.1 80 = .ok (.aload_n 0, 1) := by decide +kernel
theorem d_M_leave_81 : decode md_M_leave.2.1 81 = .ok (.getfield 35, 3) := by decide +kernel
theorem d_M_leave_84 : decode md_M_leave.2.1 84 = .ok (.bipush 62, 2) := by decide +kernel
theorem d_M_leave_86 : decode md_M_leave.2.1 86 = .ok (.iload_n 1, 1) := by decide +kernel
theorem d_M_leave_87 : decode md_M_leave.2.1 87 = .ok (.imul, 1) := by decide +kernel
theorem d_M_leave_88 : decode md_M_leave.2.1 88 = .ok (.iload_n 3, 1) := by decide +kernel
theorem d_M_leave_89 : decode md_M_leave.2.1 89 = .ok (.iadd, 1) := by decide +kernel
theorem d_M_leave_90 : decode md_M_leave.2.1 90 = .ok (.aload_n 0, 1) := by decide +kernel
theorem d_M_leave_91 : decode md_M_leave.2.1 91 = .ok (.getfield 35, 3) := by decide +kernel
theorem d_M_leave_94 : decode md_M_leave.2.1 94 = .ok (.bipush 62, 2) := by decide +kernel
theorem d_M_leave_96 : decode md_M_leave.2.1 96 = .ok (.iload_n 1, 1) := by decide +kernel
theorem d_M_leave_97 : decode md_M_leave.2.1 97 = .ok (.imul, 1) := by decide +kernel
theorem d_M_leave_98 : decode md_M_leave.2.1 98 = .ok (.iload_n 2, 1) := by decide +kernel
theorem d_M_leave_99 : decode md_M_leave.2.1 99 = .ok (.iadd, 1) := by decide +kernel
theorem d_M_leave_100 : decode md_M_leave.2.1 100 = .ok (.iload_n 3, 1) := by decide +kernel
theorem d_M_leave_101 : decode md_M_leave.2.1 101 = .ok (.iadd, 1) := by decide +kernel
theorem d_M_leave_102 : decode md_M_leave.2.1 102 = .ok (.laload, 1) := by decide +kernel
theorem d_M_leave_103 : decode md_M_leave.2.1 103 = .ok (.lastore, 1) := by decide +kernel
theorem d_M_leave_104 : decode md_M_leave.2.1 104 = .ok (.aload_n 0, 1) := by decide +kernel
theorem d_M_leave_105 : decode md_M_leave.2.1 105 = .ok (.getfield 38, 3) := by decide +kernel
theorem d_M_leave_108 : decode md_M_leave.2.1 108 = .ok (.bipush 62, 2) := by decide +kernel
theorem d_M_leave_110 : decode md_M_leave.2.1 110 = .ok (.iload_n 1, 1) := by decide +kernel
theorem d_M_leave_111 : decode md_M_leave.2.1 111 = .ok (.imul, 1) := by decide +kernel
theorem d_M_leave_112 : decode md_M_leave.2.1 112 = .ok (.iload_n 3, 1) := by decide +kernel
theorem d_M_leave_113 : decode md_M_leave.2.1 113 = .ok (.iadd, 1) := by decide +kernel
theorem d_M_leave_114 : decode md_M_leave.2.1 114 = .ok (.aload_n 0, 1) := by decide +kernel
theorem d_M_leave_115 : decode md_M_leave.2.1 115 = .ok (.getfield 38, 3) := by decide +kernel
theorem d_M_leave_118 : decode md_M_leave.2.1 118 = .ok (.bipush 62, 2) := by decide +kernel
theorem d_M_leave_120 : decode md_M_leave.2.1 120 = .ok (.iload_n 1, 1) := by decide +kernel
theorem d_M_leave_121 : decode md_M_leave.2.1 121 = .ok (.imul, 1) := by decide +kernel
theorem d_M_leave_122 : decode md_M_leave.2.1 122 = .ok (.iload_n 2, 1) := by decide +kernel
theorem d_M_leave_123 : decode md_M_leave.2.1 123 = .ok (.iadd, 1) := by decide +kernel
theorem d_M_leave_124 : decode md_M_leave.2.1 124 = .ok (.iload_n 3, 1) := by decide +kernel
theorem d_M_leave_125 : decode md_M_leave.2.1 125 = .ok (.iadd, 1) := by decide +kernel
theorem d_M_leave_126 : decode md_M_leave.2.1 126 = .ok (.laload, 1) := by decide +kernel
theorem d_M_leave_127 : decode md_M_leave.2.1 127 = .ok (.lastore, 1) := by decide +kernel
theorem d_M_leave_128 : decode md_M_leave.2.1 128 = .ok (.iinc 3 1, 3) := by decide +kernel
theorem d_M_leave_131 : decode md_M_leave.2.1 131 = .ok (.goto (-61), 3) := by decide +kernel
theorem d_M_leave_134 : decode md_M_leave.2.1 134 = .ok (.iconst 0, 1) := by decide +kernel
theorem d_M_leave_135 : decode md_M_leave.2.1 135 = .ok (.istore_n 3, 1) := by decide +kernel
theorem d_M_leave_136 : decode md_M_leave.2.1 136 = .ok (.iload_n 3, 1) := by decide +kernel
theorem d_M_leave_137 : decode md_M_leave.2.1 137 = .ok (.aload_n 0, 1) := by decide +kernel
theorem d_M_leave_138 : decode md_M_leave.2.1 138 = .ok (.getfield 71, 3) := by decide +kernel
theorem d_M_leave_141 : decode md_M_leave.2.1 141 = .ok (.if_icmp .ge 41, 3) := by decide +kernel
theorem d_M_leave_144 : decode md_M_leave.2.1 144 = .ok (.aload_n 0, 1) := by decide +kernel
theorem d_M_leave_145 : decode md_M_leave.2.1 145 = .ok (.getfield 32, 3) := by decide +kernel
theorem d_M_leave_148 : decode md_M_leave.2.1 148 = .ok (.iload_n 1, 1) := by decide +kernel
theorem d_M_leave_149 : decode md_M_leave.2.1 149 = .ok (.dup2, 1) := by decide +kernel
theorem d_M_leave_150 : decode md_M_leave.2.1 150 = .ok (.iaload, 1) := by decide +kernel
theorem d_M_leave_151 : decode md_M_leave.2.1 151 = .ok (.aload_n 0, 1) := by decide +kernel
theorem d_M_leave_152 : decode md_M_leave.2.1 152 = .ok (.aload_n 0, 1) := by decide +kernel
theorem d_M_leave_153 : decode md_M_leave.2.1 153 = .ok (.getfield 7, 3) := by decide +kernel
theorem d_M_leave_156 : decode md_M_leave.2.1 156 = .ok (.iload_n 3, 1) := by decide +kernel
theorem d_M_leave_157 : decode md_M_leave.2.1 157 = .ok (.iaload, 1) := by decide +kernel
theorem d_M_leave_158 : decode md_M_leave.2.1 158 = .ok (.invokevirtual 158, 3) := by decide +kernel
theorem d_M_leave_161 : decode md_M_leave.2.1 161 = .ok (.ifCond .eq 7, 3) := by decide +kernel
theorem d_M_leave_164 : decode md_M_leave.2.1 164 = .ok (.iload_n 2, 1) := by decide +kernel
theorem d_M_leave_165 : decode md_M_leave.2.1 165 = .ok (.goto 9, 3) := by decide +kernel
theorem d_M_leave_168 : decode md_M_leave.2.1 168 = .ok (.aload_n 0, 1) := by decide +kernel
theorem d_M_leave_169 : decode md_M_leave.2.1 169 = .ok (.getfield 29, 3) := by decide +kernel
theorem d_M_leave_172 : decode md_M_leave.2.1 172 = .ok (.iload_n 1, 1) := by decide +kernel
theorem d_M_leave_173 : decode md_M_leave.2.1 173 = .ok (.iaload, 1) := by decide +kernel
theorem d_M_leave_174 : decode md_M_leave.2.1 174 = .ok (.iadd, 1) := by decide +kernel
theorem d_M_leave_175 : decode md_M_leave.2.1 175 = .ok (.iastore, 1) := by decide +kernel
theorem d_M_leave_176 : decode md_M_leave.2.1 176 = .ok (.iinc 3 1, 3) := by decide +kernel
theorem d_M_leave_179 : decode md_M_leave.2.1 179 = .ok (.goto (-43), 3) := by decide +kernel
theorem d_M_leave_182 : decode md_M_leave.2.1 182 = .ok (.return_, 1) := by decide +kernel
theorem d_M_mayBeTakenBack_0 : decode md_M_mayBeTakenBack.2.1 0 = .ok (.iload_n 1, 1) := by decide +kernel
theorem d_M_mayBeTakenBack_1 : decode md_M_mayBeTakenBack.2.1 1 = .ok (.ifCond .eq 15, 3) := by decide +kernel
theorem d_M_mayBeTakenBack_4 : decode md_M_mayBeTakenBack.2.1 4 = .ok (.iload_n 1, 1) := by decide +kernel
theorem d_M_mayBeTakenBack_5 : decode md_M_mayBeTakenBack.2.1 5 = .ok (.bipush 6, 2) := by decide +kernel
theorem d_M_mayBeTakenBack_7 : decode md_M_mayBeTakenBack.2.1 7 = .ok (.if_icmp .eq 9, 3) := by decide +kernel
theorem d_M_mayBeTakenBack_10 : decode md_M_mayBeTakenBack.2.1 10 = .ok (.iload_n 1, 1) := by decide +kernel
theorem d_M_mayBeTakenBack_11 : decode md_M_mayBeTakenBack.2.1 11 = .ok (.bipush 7, 2) := by decide +kernel
theorem d_M_mayBeTakenBack_13 : decode md_M_mayBeTakenBack.2.1 13 = .ok (.if_icmp .ne 7, 3) := by decide +kernel
theorem d_M_mayBeTakenBack_16 : decode md_M_mayBeTakenBack.2.1 16 = .ok (.iconst 1, 1) := by decide +kernel
theorem d_M_mayBeTakenBack_17 : decode md_M_mayBeTakenBack.2.1 17 = .ok (.goto 4, 3) := by decide +kernel
theorem d_M_mayBeTakenBack_20 : decode md_M_mayBeTakenBack.2.1 20 = .ok (.iconst 0, 1) := by decide +kernel
theorem d_M_mayBeTakenBack_21 : decode md_M_mayBeTakenBack.2.1 21 = .ok (.ireturn, 1) := by decide +kernel
theorem d_M_timers_0 : decode md_M_timers.2.1 0 = .ok (.aload_n 0, 1) := by decide +kernel
theorem d_M_timers_1 : decode md_M_timers.2.1 1 = .ok (.getfield 114, 3) := by decide +kernel
theorem d_M_timers_4 : decode md_M_timers.2.1 4 = .ok (.lconst 0, 1) := by decide +kernel
theorem d_M_timers_5 : decode md_M_timers.2.1 5 = .ok (.lcmp, 1) := by decide +kernel
theorem d_M_timers_6 : decode md_M_timers.2.1 6 = .ok (.ifCond .ge 4, 3) := by decide +kernel
theorem d_M_timers_9 : decode md_M_timers.2.1 9 = .ok (.return_, 1) := by decide +kernel
theorem d_M_timers_10 : decode md_M_timers.2.1 10 = .ok (.aload_n 0, 1) := by decide +kernel
theorem d_M_timers_11 : decode md_M_timers.2.1 11 = .ok (.getfield 114, 3) := by decide +kernel
theorem d_M_timers_14 : decode md_M_timers.2.1 14 = .ok (.aload_n 0, 1) := by decide +kernel
theorem d_M_timers_15 : decode md_M_timers.2.1 15 = .ok (.getfield 64, 3) := by decide +kernel
theorem d_M_timers_18 : decode md_M_timers.2.1 18 = .ok (.i2l, 1) := by decide +kernel
theorem d_M_timers_19 : decode md_M_timers.2.1 19 = .ok (.ldiv, 1) := by decide +kernel
theorem d_M_timers_20 : decode md_M_timers.2.1 20 = .ok (.aload_n 0, 1) := by decide +kernel
theorem d_M_timers_21 : decode md_M_timers.2.1 21 = .ok (.getfield 64, 3) := by decide +kernel
theorem d_M_timers_24 : decode md_M_timers.2.1 24 = .ok (.i2l, 1) := by decide +kernel
theorem d_M_timers_25 : decode md_M_timers.2.1 25 = .ok (.lmul, 1) := by decide +kernel
theorem d_M_timers_26 : decode md_M_timers.2.1 26 = .ok (.lstore_n 1, 1) := by decide +kernel
theorem d_M_timers_27 : decode md_M_timers.2.1 27 = .ok (.lload_n 1, 1) := by decide +kernel
theorem d_M_timers_28 : decode md_M_timers.2.1 28 = .ok (.ldc2_w 161, 3) := by decide +kernel
theorem d_M_timers_31 : decode md_M_timers.2.1 31 = .ok (.aload_n 0, 1) := by decide +kernel
theorem d_M_timers_32 : decode md_M_timers.2.1 32 = .ok (.getfield 64, 3) := by decide +kernel
theorem d_M_timers_35 : decode md_M_timers.2.1 35 = .ok (.i2l, 1) := by decide +kernel
theorem d_M_timers_36 : decode md_M_timers.2.1 36 = .ok (.lmul, 1) := by decide +kernel
theorem d_M_timers_37 : decode md_M_timers.2.1 37 = .ok (.lsub, 1) := by decide +kernel
theorem d_M_timers_38 : decode md_M_timers.2.1 38 = .ok (.aload_n 0, 1) := by decide +kernel
theorem d_M_timers_39 : decode md_M_timers.2.1 39 = .ok (.getfield 163, 3) := by decide +kernel
theorem d_M_timers_42 : decode md_M_timers.2.1 42 = .ok (.aload_n 0, 1) := by decide +kernel
theorem d_M_timers_43 : decode md_M_timers.2.1 43 = .ok (.getfield 64, 3) := by decide +kernel
theorem d_M_timers_46 : decode md_M_timers.2.1 46 = .ok (.i2l, 1) := by decide +kernel
theorem d_M_timers_47 : decode md_M_timers.2.1 47 = .ok (.ladd, 1) := by decide +kernel
theorem d_M_timers_48 : decode md_M_timers.2.1 48 = .ok (.lcmp, 1) := by decide +kernel
theorem d_M_timers_49 : decode md_M_timers.2.1 49 = .ok (.ifCond .le 17, 3) := by decide +kernel
theorem d_M_timers_52 : decode md_M_timers.2.1 52 = .ok (.lload_n 1, 1) := by decide +kernel
theorem d_M_timers_53 : decode md_M_timers.2.1 53 = .ok (.ldc2_w 161, 3) := by decide +kernel
theorem d_M_timers_56 : decode md_M_timers.2.1 56 = .ok (.aload_n 0, 1) := by decide +kernel
theorem d_M_timers_57 : decode md_M_timers.2.1 57 = .ok (.getfield 64, 3) := by decide +kernel
theorem d_M_timers_60 : decode md_M_timers.2.1 60 = .ok (.i2l, 1) := by decide +kernel
theorem d_M_timers_61 : decode md_M_timers.2.1 61 = .ok (.lmul, 1) := by decide +kernel
theorem d_M_timers_62 : decode md_M_timers.2.1 62 = .ok (.lsub, 1) := by decide +kernel
theorem d_M_timers_63 : decode md_M_timers.2.1 63 = .ok (.goto 13, 3) := by decide +kernel
theorem d_M_timers_66 : decode md_M_timers.2.1 66 = .ok (.aload_n 0, 1) := by decide +kernel
theorem d_M_timers_67 : decode md_M_timers.2.1 67 = .ok (.getfield 163, 3) := by decide +kernel
theorem d_M_timers_70 : decode md_M_timers.2.1 70 = .ok (.aload_n 0, 1) := by decide +kernel
theorem d_M_timers_71 : decode md_M_timers.2.1 71 = .ok (.getfield 64, 3) := by decide +kernel
theorem d_M_timers_74 : decode md_M_timers.2.1 74 = .ok (.i2l, 1) := by decide +kernel
theorem d_M_timers_75 : decode md_M_timers.2.1 75 = .ok (.ladd, 1) := by decide +kernel
theorem d_M_timers_76 : decode md_M_timers.2.1 76 = .ok (.lstore_n 3, 1) := by decide +kernel
theorem d_M_timers_77 : decode md_M_timers.2.1 77 = .ok (.lload_n 3, 1) := by decide +kernel
theorem d_M_timers_78 : decode md_M_timers.2.1 78 = .ok (.lstore 5, 2) := by decide +kernel
theorem d_M_timers_80 : decode md_M_timers.2.1 80 = .ok (.lload 5, 2) := by decide +kernel
theorem d_M_timers_82 : decode md_M_timers.2.1 82 = .ok (.lload_n 1, 1) := by decide +kernel
theorem d_M_timers_83 : decode md_M_timers.2.1 83 = .ok (.lcmp, 1) := by decide +kernel
theorem d_M_timers_84 : decode md_M_timers.2.1 84 = .ok (.ifCond .gt 68, 3) := by decide +kernel
theorem d_M_timers_87 : decode md_M_timers.2.1 87 = .ok (.iconst 0, 1) := by decide +kernel
theorem d_M_timers_88 : decode md_M_timers.2.1 88 = .ok (.istore 7, 2) := by decide +kernel
theorem d_M_timers_90 : decode md_M_timers.2.1 90 = .ok (.iload 7, 2) := by decide +kernel
theorem d_M_timers_92 : decode md_M_timers.2.1 92 = .ok (.aload_n 0, 1) := by decide +kernel
theorem d_M_timers_93 : decode md_M_timers.2.1 93 = .ok (.getfield 74, 3) := by decide +kernel
theorem d_M_timers_96 : decode md_M_timers.2.1 96 = .ok (.if_icmp .ge 43, 3) := by decide +kernel
theorem d_M_timers_99 : decode md_M_timers.2.1 99 = .ok (.aload_n 0, 1) := by decide +kernel
theorem d_M_timers_100 : decode md_M_timers.2.1 100 = .ok (.getfield 29, 3) := by decide +kernel
theorem d_M_timers_103 : decode md_M_timers.2.1 103 = .ok (.iload 7, 2) := by decide +kernel
theorem d_M_timers_105 : decode md_M_timers.2.1 105 = .ok (.iaload, 1) := by decide +kernel
theorem d_M_timers_106 : decode md_M_timers.2.1 106 = .ok (.ifCond .le 27, 3) := by decide +kernel
theorem d_M_timers_109 : decode md_M_timers.2.1 109 = .ok (.aload_n 0, 1) := by decide +kernel
theorem d_M_timers_110 : decode md_M_timers.2.1 110 = .ok (.getfield 35, 3) := by decide +kernel
theorem d_M_timers_113 : decode md_M_timers.2.1 113 = .ok (.bipush 62, 2) := by decide +kernel
theorem d_M_timers_115 : decode md_M_timers.2.1 115 = .ok (.iload 7, 2) := by decide +kernel
theorem d_M_timers_117 : decode md_M_timers.2.1 117 = .ok (.imul, 1) := by decide +kernel
theorem d_M_timers_118 : decode md_M_timers.2.1 118 = .ok (.laload, 1) := by decide +kernel
theorem d_M_timers_119 : decode md_M_timers.2.1 119 = .ok (.lload 5, 2) := by decide +kernel
theorem d_M_timers_121 : decode md_M_timers.2.1 121 = .ok (.lcmp, 1) := by decide +kernel
theorem d_M_timers_122 : decode md_M_timers.2.1 122 = .ok (.ifCond .ge 11, 3) := by decide +kernel
theorem d_M_timers_125 : decode md_M_timers.2.1 125 = .ok (.aload_n 0, 1) := by decide +kernel
theorem d_M_timers_126 : decode md_M_timers.2.1 126 = .ok (.iload 7, 2) := by decide +kernel
theorem d_M_timers_128 : decode md_M_timers.2.1 128 = .ok (.lload 5, 2) := by decide +kernel
theorem d_M_timers_130 : decode md_M_timers.2.1 130 = .ok (.invokevirtual 166, 3) := by decide +kernel
theorem d_M_timers_133 : decode md_M_timers.2.1 133 = .ok (.iinc 7 1, 3) := by decide +kernel
theorem d_M_timers_136 : decode md_M_timers.2.1 136 = .ok (.goto (-46), 3) := by decide +kernel
theorem d_M_timers_139 : decode md_M_timers.2.1 139 = .ok (.lload 5, 2) := by decide +kernel
theorem d_M_timers_141 : decode md_M_timers.2.1 141 = .ok (.aload_n 0, 1) := by decide +kernel
theorem d_M_timers_142 : decode md_M_timers.2.1 142 = .ok (.getfield 64, 3) := by decide +kernel
theorem d_M_timers_145 : decode md_M_timers.2.1 145 = .ok (.i2l, 1) := by decide +kernel
theorem d_M_timers_146 : decode md_M_timers.2.1 146 = .ok (.ladd, 1) := by decide +kernel
theorem d_M_timers_147 : decode md_M_timers.2.1 147 = .ok (.lstore 5, 2) := by decide +kernel
theorem d_M_timers_149 : decode md_M_timers.2.1 149 = .ok (.goto (-69), 3) := by decide +kernel
theorem d_M_timers_152 : decode md_M_timers.2.1 152 = .ok (.lload_n 1, 1) := by decide +kernel
theorem d_M_timers_153 : decode md_M_timers.2.1 153 = .ok (.aload_n 0, 1) := by decide +kernel
theorem d_M_timers_154 : decode md_M_timers.2.1 154 = .ok (.getfield 163, 3) := by decide +kernel
theorem d_M_timers_157 : decode md_M_timers.2.1 157 = .ok (.lcmp, 1) := by decide +kernel
theorem d_M_timers_158 : decode md_M_timers.2.1 158 = .ok (.ifCond .le 8, 3) := by decide +kernel
theorem d_M_timers_161 : decode md_M_timers.2.1 161 = .ok (.aload_n 0, 1) := by decide +kernel
theorem d_M_timers_162 : decode md_M_timers.2.1 162 = .ok (.lload_n 1, 1) := by decide +kernel
theorem d_M_timers_163 : decode md_M_timers.2.1 163 = .ok (.putfield 163, 3) := by decide +kernel
theorem d_M_timers_166 : decode md_M_timers.2.1 166 = .ok (.return_, 1) := by decide +kernel
theorem d_M_tell_0 : decode md_M_tell.2.1 0 = .ok (.aload_n 0, 1) := by decide +kernel
theorem d_M_tell_1 : decode md_M_tell.2.1 1 = .ok (.getfield 170, 3) := by decide +kernel
theorem d_M_tell_4 : decode md_M_tell.2.1 4 = .ok (.sipush 300, 3) := by decide +kernel
theorem d_M_tell_7 : decode md_M_tell.2.1 7 = .ok (.if_icmp .ge 79, 3) := by decide +kernel
theorem d_M_tell_10 : decode md_M_tell.2.1 10 = .ok (.aload_n 0, 1) := by decide +kernel
theorem d_M_tell_11 : decode md_M_tell.2.1 11 = .ok (.getfield 47, 3) := by decide +kernel
theorem d_M_tell_14 : decode md_M_tell.2.1 14 = .ok (.bipush 8, 2) := by decide +kernel
theorem d_M_tell_16 : decode md_M_tell.2.1 16 = .ok (.aload_n 0, 1) := by decide +kernel
theorem d_M_tell_17 : decode md_M_tell.2.1 17 = .ok (.getfield 170, 3) := by decide +kernel
theorem d_M_tell_20 : decode md_M_tell.2.1 20 = .ok (.imul, 1) := by decide +kernel
theorem d_M_tell_21 : decode md_M_tell.2.1 21 = .ok (.lload_n 2, 1) := by decide +kernel
theorem d_M_tell_22 : decode md_M_tell.2.1 22 = .ok (.lastore, 1) := by decide +kernel
theorem d_M_tell_23 : decode md_M_tell.2.1 23 = .ok (.aload_n 0, 1) := by decide +kernel
theorem d_M_tell_24 : decode md_M_tell.2.1 24 = .ok (.getfield 47, 3) := by decide +kernel
theorem d_M_tell_27 : decode md_M_tell.2.1 27 = .ok (.bipush 8, 2) := by decide +kernel
theorem d_M_tell_29 : decode md_M_tell.2.1 29 = .ok (.aload_n 0, 1) := by decide +kernel
theorem d_M_tell_30 : decode md_M_tell.2.1 30 = .ok (.getfield 170, 3) := by decide +kernel
theorem d_M_tell_33 : decode md_M_tell.2.1 33 = .ok (.imul, 1) := by decide +kernel
theorem d_M_tell_34 : decode md_M_tell.2.1 34 = .ok (.iconst 1, 1) := by decide +kernel
theorem d_M_tell_35 : decode md_M_tell.2.1 35 = .ok (.iadd, 1) := by decide +kernel
theorem d_M_tell_36 : decode md_M_tell.2.1 36 = .ok (.aload_n 0, 1) := by decide +kernel
theorem d_M_tell_37 : decode md_M_tell.2.1 37 = .ok (.getfield 26, 3) := by decide +kernel
theorem d_M_tell_40 : decode md_M_tell.2.1 40 = .ok (.iload_n 1, 1) := by decide +kernel
theorem d_M_tell_41 : decode md_M_tell.2.1 41 = .ok (.laload, 1) := by decide +kernel
theorem d_M_tell_42 : decode md_M_tell.2.1 42 = .ok (.lastore, 1) := by decide +kernel
theorem d_M_tell_43 : decode md_M_tell.2.1 43 = .ok (.iconst 0, 1) := by decide +kernel
theorem d_M_tell_44 : decode md_M_tell.2.1 44 = .ok (.istore 4, 2) := by decide +kernel
theorem d_M_tell_46 : decode md_M_tell.2.1 46 = .ok (.iload 4, 2) := by decide +kernel
theorem d_M_tell_48 : decode md_M_tell.2.1 48 = .ok (.aload_n 0, 1) := by decide +kernel
theorem d_M_tell_49 : decode md_M_tell.2.1 49 = .ok (.getfield 71, 3) := by decide +kernel
theorem d_M_tell_52 : decode md_M_tell.2.1 52 = .ok (.if_icmp .ge 34, 3) := by decide +kernel
theorem d_M_tell_55 : decode md_M_tell.2.1 55 = .ok (.aload_n 0, 1) := by decide +kernel
theorem d_M_tell_56 : decode md_M_tell.2.1 56 = .ok (.getfield 47, 3) := by decide +kernel
theorem d_M_tell_59 : decode md_M_tell.2.1 59 = .ok (.bipush 8, 2) := by decide +kernel
theorem d_M_tell_61 : decode md_M_tell.2.1 61 = .ok (.aload_n 0, 1) := by decide +kernel
theorem d_M_tell_62 : decode md_M_tell.2.1 62 = .ok (.getfield 170, 3) := by decide +kernel
theorem d_M_tell_65 : decode md_M_tell.2.1 65 = .ok (.imul, 1) := by decide +kernel
theorem d_M_tell_66 : decode md_M_tell.2.1 66 = .ok (.iconst 2, 1) := by decide +kernel
theorem d_M_tell_67 : decode md_M_tell.2.1 67 = .ok (.iadd, 1) := by decide +kernel
theorem d_M_tell_68 : decode md_M_tell.2.1 68 = .ok (.iload 4, 2) := by decide +kernel
theorem d_M_tell_70 : decode md_M_tell.2.1 70 = .ok (.iadd, 1) := by decide +kernel
theorem d_M_tell_71 : decode md_M_tell.2.1 71 = .ok (.aload_n 0, 1) := by decide +kernel
theorem d_M_tell_72 : decode md_M_tell.2.1 72 = .ok (.iload_n 1, 1) := by decide +kernel
theorem d_M_tell_73 : decode md_M_tell.2.1 73 = .ok (.iload 4, 2) := by decide +kernel
theorem d_M_tell_75 : decode md_M_tell.2.1 75 = .ok (.lload_n 2, 1) := by decide +kernel
theorem d_M_tell_76 : decode md_M_tell.2.1 76 = .ok (.invokevirtual 173, 3) := by decide +kernel
theorem d_M_tell_79 : decode md_M_tell.2.1 79 = .ok (.lastore, 1) := by decide +kernel
theorem d_M_tell_80 : decode md_M_tell.2.1 80 = .ok (.iinc 4 1, 3) := by decide +kernel
theorem d_M_tell_83 : decode md_M_tell.2.1 83 = .ok (.goto (-37), 3) := by decide +kernel
theorem d_M_tell_86 : decode md_M_tell.2.1 86 = .ok (.aload_n 0, 1) := by decide +kernel
theorem d_M_tell_87 : decode md_M_tell.2.1 87 = .ok (.dup, 1) := by decide +kernel
theorem d_M_tell_88 : decode md_M_tell.2.1 88 = .ok (.getfield 170, 3) := by decide +kernel
theorem d_M_tell_91 : decode md_M_tell.2.1 91 = .ok (.iconst 1, 1) := by decide +kernel
theorem d_M_tell_92 : decode md_M_tell.2.1 92 = .ok (.iadd, 1) := by decide +kernel
theorem d_M_tell_93 : decode md_M_tell.2.1 93 = .ok (.putfield 170, 3) := by decide +kernel
theorem d_M_tell_96 : decode md_M_tell.2.1 96 = .ok (.return_, 1) := by decide +kernel
theorem d_M_foldOf_0 : decode md_M_foldOf.2.1 0 = .ok (.aload_n 0, 1) := by decide +kernel
theorem d_M_foldOf_1 : decode md_M_foldOf.2.1 1 = .ok (.getfield 13, 3) := by decide +kernel
theorem d_M_foldOf_4 : decode md_M_foldOf.2.1 4 = .ok (.iload_n 2, 1) := by decide +kernel
theorem d_M_foldOf_5 : decode md_M_foldOf.2.1 5 = .ok (.laload, 1) := by decide +kernel
theorem d_M_foldOf_6 : decode md_M_foldOf.2.1 6 = .ok (.lstore 5, 2) := by decide +kernel
theorem d_M_foldOf_8 : decode md_M_foldOf.2.1 8 = .ok (.iconst 0, 1) := by decide +kernel
theorem d_M_foldOf_9 : decode md_M_foldOf.2.1 9 = .ok (.istore 7, 2) := by decide +kernel
theorem d_M_foldOf_11 : decode md_M_foldOf.2.1 11 = .ok (.iload 7, 2) := by decide +kernel
theorem d_M_foldOf_13 : decode md_M_foldOf.2.1 13 = .ok (.aload_n 0, 1) := by decide +kernel
theorem d_M_foldOf_14 : decode md_M_foldOf.2.1 14 = .ok (.getfield 29, 3) := by decide +kernel
theorem d_M_foldOf_17 : decode md_M_foldOf.2.1 17 = .ok (.iload_n 1, 1) := by decide +kernel
theorem d_M_foldOf_18 : decode md_M_foldOf.2.1 18 = .ok (.iaload, 1) := by decide +kernel
theorem d_M_foldOf_19 : decode md_M_foldOf.2.1 19 = .ok (.if_icmp .ge 81, 3) := by decide +kernel
theorem d_M_foldOf_22 : decode md_M_foldOf.2.1 22 = .ok (.bipush 62, 2) := by decide +kernel
theorem d_M_foldOf_24 : decode md_M_foldOf.2.1 24 = .ok (.iload_n 1, 1) := by decide +kernel
theorem d_M_foldOf_25 : decode md_M_foldOf.2.1 25 = .ok (.imul, 1) := by decide +kernel
theorem d_M_foldOf_26 : decode md_M_foldOf.2.1 26 = .ok (.iload 7, 2) := by decide +kernel
theorem d_M_foldOf_28 : decode md_M_foldOf.2.1 28 = .ok (.iadd, 1) := by decide +kernel
theorem d_M_foldOf_29 : decode md_M_foldOf.2.1 29 = .ok (.istore 8, 2) := by decide +kernel
theorem d_M_foldOf_31 : decode md_M_foldOf.2.1 31 = .ok (.aload_n 0, 1) := by decide +kernel
theorem d_M_foldOf_32 : decode md_M_foldOf.2.1 32 = .ok (.getfield 35, 3) := by decide +kernel
theorem d_M_foldOf_35 : decode md_M_foldOf.2.1 35 = .ok (.iload 8, 2) := by decide +kernel
theorem d_M_foldOf_37 : decode md_M_foldOf.2.1 37 = .ok (.laload, 1) := by decide +kernel
theorem d_M_foldOf_38 : decode md_M_foldOf.2.1 38 = .ok (.lload_n 3, 1) := by decide +kernel
theorem d_M_foldOf_39 : decode md_M_foldOf.2.1 39 = .ok (.lcmp, 1) := by decide +kernel
theorem d_M_foldOf_40 : decode md_M_foldOf.2.1 40 = .ok (.ifCond .ge 54, 3) := by decide +kernel
theorem d_M_foldOf_43 : decode md_M_foldOf.2.1 43 = .ok (.aload_n 0, 1) := by decide +kernel
theorem d_M_foldOf_44 : decode md_M_foldOf.2.1 44 = .ok (.iload_n 2, 1) := by decide +kernel
theorem d_M_foldOf_45 : decode md_M_foldOf.2.1 45 = .ok (.lload 5, 2) := by decide +kernel
theorem d_M_foldOf_47 : decode md_M_foldOf.2.1 47 = .ok (.aload_n 0, 1) := by decide +kernel
theorem d_M_foldOf_48 : decode md_M_foldOf.2.1 48 = .ok (.getfield 35, 3) := by decide +kernel
theorem d_M_foldOf_51 : decode md_M_foldOf.2.1 51 = .ok (.iload 8, 2) := by decide +kernel
theorem d_M_foldOf_53 : decode md_M_foldOf.2.1 53 = .ok (.laload, 1) := by decide +kernel
theorem d_M_foldOf_54 : decode md_M_foldOf.2.1 54 = .ok (.aload_n 0, 1) := by decide +kernel
theorem d_M_foldOf_55 : decode md_M_foldOf.2.1 55 = .ok (.getfield 38, 3) := by decide +kernel
theorem d_M_foldOf_58 : decode md_M_foldOf.2.1 58 = .ok (.iload 8, 2) := by decide +kernel
theorem d_M_foldOf_60 : decode md_M_foldOf.2.1 60 = .ok (.laload, 1) := by decide +kernel
theorem d_M_foldOf_61 : decode md_M_foldOf.2.1 61 = .ok (.iload 7, 2) := by decide +kernel
theorem d_M_foldOf_63 : decode md_M_foldOf.2.1 63 = .ok (.ifCond .ne 7, 3) := by decide +kernel
theorem d_M_foldOf_66 : decode md_M_foldOf.2.1 66 = .ok (.iconst 1, 1) := by decide +kernel
theorem d_M_foldOf_67 : decode md_M_foldOf.2.1 67 = .ok (.goto 4, 3) := by decide +kernel
theorem d_M_foldOf_70 : decode md_M_foldOf.2.1 70 = .ok (.iconst 0, 1) := by decide +kernel
theorem d_M_foldOf_71 : decode md_M_foldOf.2.1 71 = .ok (.iload 7, 2) := by decide +kernel
theorem d_M_foldOf_73 : decode md_M_foldOf.2.1 73 = .ok (.ifCond .ne 7, 3) := by decide +kernel
theorem d_M_foldOf_76 : decode md_M_foldOf.2.1 76 = .ok (.lconst 0, 1) := by decide +kernel
theorem d_M_foldOf_77 : decode md_M_foldOf.2.1 77 = .ok (.goto 12, 3) := by decide +kernel
theorem d_M_foldOf_80 : decode md_M_foldOf.2.1 80 = .ok (.aload_n 0, 1) := by decide +kernel
theorem d_M_foldOf_81 : decode md_M_foldOf.2.1 81 = .ok (.getfield 35, 3) := by decide +kernel
theorem d_M_foldOf_84 : decode md_M_foldOf.2.1 84 = .ok (.iload 8, 2) := by decide +kernel
theorem d_M_foldOf_86 : decode md_M_foldOf.2.1 86 = .ok (.iconst 1, 1) := by decide +kernel
theorem d_M_foldOf_87 : decode md_M_foldOf.2.1 87 = .ok (.isub, 1) := by decide +kernel
theorem d_M_foldOf_88 : decode md_M_foldOf.2.1 88 = .ok (.laload, 1) := by decide +kernel
theorem d_M_foldOf_89 : decode md_M_foldOf.2.1 89 = .ok (.invokevirtual 97, 3) := by decide +kernel
theorem d_M_foldOf_92 : decode md_M_foldOf.2.1 92 = .ok (.lstore 5, 2) := by decide +kernel
theorem d_M_foldOf_94 : decode md_M_foldOf.2.1 94 = .ok (.iinc 7 1, 3) := by decide +kernel
theorem d_M_foldOf_97 : decode md_M_foldOf.2.1 97 = .ok (.goto (-86), 3) := by decide +kernel
theorem d_M_foldOf_100 : decode md_M_foldOf.2.1 100 = .ok (.lload 5, 2) := by decide +kernel
theorem d_M_foldOf_102 : decode md_M_foldOf.2.1 102 = .ok (.lreturn, 1) := by decide +kernel
theorem d_M_step_0 : decode md_M_step.2.1 0 = .ok (.aload_n 0, 1) := by decide +kernel
theorem d_M_step_1 : decode md_M_step.2.1 1 = .ok (.getfield 7, 3) := by decide +kernel
theorem d_M_step_4 : decode md_M_step.2.1 4 = .ok (.iload_n 1, 1) := by decide +kernel
theorem d_M_step_5 : decode md_M_step.2.1 5 = .ok (.iaload, 1) := by decide +kernel
theorem d_M_step_6 : decode md_M_step.2.1 6 = .ok (.tableswitch 122 0 7 #[46, 51, 65, 79, 82, 94, 106, 110], 46) := by decide +kernel
theorem d_M_step_52 : decode md_M_step.2.1 52 = .ok (.lload_n 2, 1) := by decide +kernel
theorem d_M_step_53 : decode md_M_step.2.1 53 = .ok (.lload 6, 2) := by decide +kernel
theorem d_M_step_55 : decode md_M_step.2.1 55 = .ok (.ladd, 1) := by decide +kernel
theorem d_M_step_56 : decode md_M_step.2.1 56 = .ok (.lreturn, 1) := by decide +kernel
theorem d_M_step_57 : decode md_M_step.2.1 57 = .ok (.lload_n 2, 1) := by decide +kernel
theorem d_M_step_58 : decode md_M_step.2.1 58 = .ok (.lload 6, 2) := by decide +kernel
theorem d_M_step_60 : decode md_M_step.2.1 60 = .ok (.lcmp, 1) := by decide +kernel
theorem d_M_step_61 : decode md_M_step.2.1 61 = .ok (.ifCond .le 7, 3) := by decide +kernel
theorem d_M_step_64 : decode md_M_step.2.1 64 = .ok (.lload_n 2, 1) := by decide +kernel
theorem d_M_step_65 : decode md_M_step.2.1 65 = .ok (.goto 5, 3) := by decide +kernel
theorem d_M_step_68 : decode md_M_step.2.1 68 = .ok (.lload 6, 2) := by decide +kernel
theorem d_M_step_70 : decode md_M_step.2.1 70 = .ok (.lreturn, 1) := by decide +kernel
theorem d_M_step_71 : decode md_M_step.2.1 71 = .ok (.lload_n 2, 1) := by decide +kernel
theorem d_M_step_72 : decode md_M_step.2.1 72 = .ok (.lload 6, 2) := by decide +kernel
theorem d_M_step_74 : decode md_M_step.2.1 74 = .ok (.lcmp, 1) := by decide +kernel
theorem d_M_step_75 : decode md_M_step.2.1 75 = .ok (.ifCond .ge 7, 3) := by decide +kernel
theorem d_M_step_78 : decode md_M_step.2.1 78 = .ok (.lload_n 2, 1) := by decide +kernel
