theorem d_M_joined_80 : decode md_M_joined.2.1 80 = .ok (.getfield 38, 3) := by decide +kernel
theorem d_M_joined_83 : decode md_M_joined.2.1 83 = .ok (.bipush 62, 2) := by decide +kernel
theorem d_M_joined_85 : decode md_M_joined.2.1 85 = .ok (.iload_n 3, 1) := by decide +kernel
theorem d_M_joined_86 : decode md_M_joined.2.1 86 = .ok (.imul, 1) := by decide +kernel
theorem d_M_joined_87 : decode md_M_joined.2.1 87 = .ok (.iload 6, 2) := by decide +kernel
theorem d_M_joined_89 : decode md_M_joined.2.1 89 = .ok (.iadd, 1) := by decide +kernel
theorem d_M_joined_90 : decode md_M_joined.2.1 90 = .ok (.laload, 1) := by decide +kernel
theorem d_M_joined_91 : decode md_M_joined.2.1 91 = .ok (.iconst 0, 1) := by decide +kernel
theorem d_M_joined_92 : decode md_M_joined.2.1 92 = .ok (.lconst 0, 1) := by decide +kernel
theorem d_M_joined_93 : decode md_M_joined.2.1 93 = .ok (.invokevirtual 97, 3) := by decide +kernel
theorem d_M_joined_96 : decode md_M_joined.2.1 96 = .ok (.lstore 4, 2) := by decide +kernel
theorem d_M_joined_98 : decode md_M_joined.2.1 98 = .ok (.iinc 6 (-1), 3) := by decide +kernel
theorem d_M_joined_101 : decode md_M_joined.2.1 101 = .ok (.goto (-32), 3) := by decide +kernel
theorem d_M_joined_104 : decode md_M_joined.2.1 104 = .ok (.iload_n 2, 1) := by decide +kernel
theorem d_M_joined_105 : decode md_M_joined.2.1 105 = .ok (.lload 4, 2) := by decide +kernel
theorem d_M_joined_107 : decode md_M_joined.2.1 107 = .ok (.aload_n 0, 1) := by decide +kernel
theorem d_M_joined_108 : decode md_M_joined.2.1 108 = .ok (.iload_n 3, 1) := by decide +kernel
theorem d_M_joined_109 : decode md_M_joined.2.1 109 = .ok (.iload_n 1, 1) := by decide +kernel
theorem d_M_joined_110 : decode md_M_joined.2.1 110 = .ok (.ldc2_w 177, 3) := by decide +kernel
theorem d_M_joined_113 : decode md_M_joined.2.1 113 = .ok (.invokevirtual 173, 3) := by decide +kernel
theorem d_M_joined_116 : decode md_M_joined.2.1 116 = .ok (.lcmp, 1) := by decide +kernel
theorem d_M_joined_117 : decode md_M_joined.2.1 117 = .ok (.ifCond .ne 7, 3) := by decide +kernel
theorem d_M_joined_120 : decode md_M_joined.2.1 120 = .ok (.iconst 1, 1) := by decide +kernel
theorem d_M_joined_121 : decode md_M_joined.2.1 121 = .ok (.goto 4, 3) := by decide +kernel
theorem d_M_joined_124 : decode md_M_joined.2.1 124 = .ok (.iconst 0, 1) := by decide +kernel
theorem d_M_joined_125 : decode md_M_joined.2.1 125 = .ok (.iand, 1) := by decide +kernel
theorem d_M_joined_126 : decode md_M_joined.2.1 126 = .ok (.istore_n 2, 1) := by decide +kernel
theorem d_M_joined_127 : decode md_M_joined.2.1 127 = .ok (.iinc 3 1, 3) := by decide +kernel
theorem d_M_joined_130 : decode md_M_joined.2.1 130 = .ok (.goto (-100), 3) := by decide +kernel
theorem d_M_joined_133 : decode md_M_joined.2.1 133 = .ok (.iload_n 2, 1) := by decide +kernel
theorem d_M_joined_134 : decode md_M_joined.2.1 134 = .ok (.ireturn, 1) := by decide +kernel
