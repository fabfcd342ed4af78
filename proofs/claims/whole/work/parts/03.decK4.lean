theorem d_T_keeps_6 : decode md_T_keeps.2.1 6 = .ok (.getfield 9, 3) := by decide +kernel
theorem d_T_keeps_9 : decode md_T_keeps.2.1 9 = .ok (.if_icmp .ge 15, 3) := by decide +kernel
theorem d_T_keeps_12 : decode md_T_keeps.2.1 12 = .ok (.iload_n 1, 1) := by decide +kernel
theorem d_T_keeps_13 : decode md_T_keeps.2.1 13 = .ok (.aload_n 0, 1) := by decide +kernel
theorem d_T_keeps_14 : decode md_T_keeps.2.1 14 = .ok (.getfield 15, 3) := by decide +kernel
theorem d_T_keeps_17 : decode md_T_keeps.2.1 17 = .ok (.if_icmp .ge 7, 3) := by decide +kernel
theorem d_T_keeps_20 : decode md_T_keeps.2.1 20 = .ok (.iconst 1, 1) := by decide +kernel
theorem d_T_keeps_21 : decode md_T_keeps.2.1 21 = .ok (.goto 4, 3) := by decide +kernel
theorem d_T_keeps_24 : decode md_T_keeps.2.1 24 = .ok (.iconst 0, 1) := by decide +kernel
theorem d_T_keeps_25 : decode md_T_keeps.2.1 25 = .ok (.ireturn, 1) := by decide +kernel
theorem d_T_cell_0 : decode md_T_cell.2.1 0 = .ok (.aload_n 0, 1) := by decide +kernel
theorem d_T_cell_1 : decode md_T_cell.2.1 1 = .ok (.getfield 21, 3) := by decide +kernel
theorem d_T_cell_4 : decode md_T_cell.2.1 4 = .ok (.iload_n 1, 1) := by decide +kernel
theorem d_T_cell_5 : decode md_T_cell.2.1 5 = .ok (.aload_n 0, 1) := by decide +kernel
theorem d_T_cell_6 : decode md_T_cell.2.1 6 = .ok (.getfield 18, 3) := by decide +kernel
theorem d_T_cell_9 : decode md_T_cell.2.1 9 = .ok (.imul, 1) := by decide +kernel
theorem d_T_cell_10 : decode md_T_cell.2.1 10 = .ok (.iload_n 2, 1) := by decide +kernel
theorem d_T_cell_11 : decode md_T_cell.2.1 11 = .ok (.iadd, 1) := by decide +kernel
theorem d_T_cell_12 : decode md_T_cell.2.1 12 = .ok (.laload, 1) := by decide +kernel
theorem d_T_cell_13 : decode md_T_cell.2.1 13 = .ok (.lreturn, 1) := by decide +kernel
theorem d_K_output_0 : decode md_K_output.2.1 0 = .ok (.aload_n 0, 1) := by decide +kernel
theorem d_K_output_1 : decode md_K_output.2.1 1 = .ok (.getfield 35, 3) := by decide +kernel
theorem d_K_output_4 : decode md_K_output.2.1 4 = .ok (.iload_n 1, 1) := by decide +kernel
theorem d_K_output_5 : decode md_K_output.2.1 5 = .ok (.invokevirtual 220, 3) := by decide +kernel
theorem d_K_output_8 : decode md_K_output.2.1 8 = .ok (.ifCond .ne 13, 3) := by decide +kernel
theorem d_K_output_11 : decode md_K_output.2.1 11 = .ok (.new 120, 3) := by decide +kernel
theorem d_K_output_14 : decode md_K_output.2.1 14 = .ok (.dup, 1) := by decide +kernel
theorem d_K_output_15 : decode md_K_output.2.1 15 = .ok (.ldc 231, 2) := by decide +kernel
theorem d_K_output_17 : decode md_K_output.2.1 17 = .ok (.invokespecial 124, 3) := by decide +kernel
theorem d_K_output_20 : decode md_K_output.2.1 20 = .ok (.athrow, 1) := by decide +kernel
theorem d_K_output_21 : decode md_K_output.2.1 21 = .ok (.iload_n 2, 1) := by decide +kernel
theorem d_K_output_22 : decode md_K_output.2.1 22 = .ok (.ifCond .lt 16, 3) := by decide +kernel
theorem d_K_output_25 : decode md_K_output.2.1 25 = .ok (.iload_n 2, 1) := by decide +kernel
theorem d_K_output_26 : decode md_K_output.2.1 26 = .ok (.iconst 2, 1) := by decide +kernel
theorem d_K_output_27 : decode md_K_output.2.1 27 = .ok (.aload_n 0, 1) := by decide +kernel
theorem d_K_output_28 : decode md_K_output.2.1 28 = .ok (.getfield 10, 3) := by decide +kernel
theorem d_K_output_31 : decode md_K_output.2.1 31 = .ok (.invokevirtual 92, 3) := by decide +kernel
theorem d_K_output_34 : decode md_K_output.2.1 34 = .ok (.iadd, 1) := by decide +kernel
theorem d_K_output_35 : decode md_K_output.2.1 35 = .ok (.if_icmp .lt 13, 3) := by decide +kernel
theorem d_K_output_38 : decode md_K_output.2.1 38 = .ok (.new 120, 3) := by decide +kernel
theorem d_K_output_41 : decode md_K_output.2.1 41 = .ok (.dup, 1) := by decide +kernel
theorem d_K_output_42 : decode md_K_output.2.1 42 = .ok (.ldc 233, 2) := by decide +kernel
theorem d_K_output_44 : decode md_K_output.2.1 44 = .ok (.invokespecial 124, 3) := by decide +kernel
theorem d_K_output_47 : decode md_K_output.2.1 47 = .ok (.athrow, 1) := by decide +kernel
theorem d_K_output_48 : decode md_K_output.2.1 48 = .ok (.aload_n 0, 1) := by decide +kernel
theorem d_K_output_49 : decode md_K_output.2.1 49 = .ok (.getfield 35, 3) := by decide +kernel
theorem d_K_output_52 : decode md_K_output.2.1 52 = .ok (.iload_n 1, 1) := by decide +kernel
theorem d_K_output_53 : decode md_K_output.2.1 53 = .ok (.iload_n 2, 1) := by decide +kernel
theorem d_K_output_54 : decode md_K_output.2.1 54 = .ok (.invokevirtual 227, 3) := by decide +kernel
theorem d_K_output_57 : decode md_K_output.2.1 57 = .ok (.lreturn, 1) := by decide +kernel
theorem d_K_watermark_0 : decode md_K_watermark.2.1 0 = .ok (.aload_n 0, 1) := by decide +kernel
theorem d_K_watermark_1 : decode md_K_watermark.2.1 1 = .ok (.invokevirtual 235, 3) := by decide +kernel
theorem d_K_watermark_4 : decode md_K_watermark.2.1 4 = .ok (.ifCond .ne 13, 3) := by decide +kernel
theorem d_K_watermark_7 : decode md_K_watermark.2.1 7 = .ok (.new 96, 3) := by decide +kernel
theorem d_K_watermark_10 : decode md_K_watermark.2.1 10 = .ok (.dup, 1) := by decide +kernel
theorem d_K_watermark_11 : decode md_K_watermark.2.1 11 = .ok (.ldc 238, 2) := by decide +kernel
theorem d_K_watermark_13 : decode md_K_watermark.2.1 13 = .ok (.invokespecial 100, 3) := by decide +kernel
theorem d_K_watermark_16 : decode md_K_watermark.2.1 16 = .ok (.athrow, 1) := by decide +kernel
theorem d_K_watermark_17 : decode md_K_watermark.2.1 17 = .ok (.aload_n 0, 1) := by decide +kernel
theorem d_K_watermark_18 : decode md_K_watermark.2.1 18 = .ok (.invokevirtual 240, 3) := by decide +kernel
theorem d_K_watermark_21 : decode md_K_watermark.2.1 21 = .ok (.lreturn, 1) := by decide +kernel
theorem d_K_told_0 : decode md_K_told.2.1 0 = .ok (.iload_n 1, 1) := by decide +kernel
theorem d_K_told_1 : decode md_K_told.2.1 1 = .ok (.tableswitch 108 0 8 #[51, 59, 67, 75, 83, 88, 93, 98, 103], 51) := by decide +kernel
theorem d_K_told_52 : decode md_K_told.2.1 52 = .ok (.aload_n 0, 1) := by decide +kernel
theorem d_K_told_53 : decode md_K_told.2.1 53 = .ok (.getfield 10, 3) := by decide +kernel
theorem d_K_told_56 : decode md_K_told.2.1 56 = .ok (.invokevirtual 92, 3) := by decide +kernel
theorem d_K_told_59 : decode md_K_told.2.1 59 = .ok (.ireturn, 1) := by decide +kernel
theorem d_K_told_60 : decode md_K_told.2.1 60 = .ok (.aload_n 0, 1) := by decide +kernel
theorem d_K_told_61 : decode md_K_told.2.1 61 = .ok (.getfield 16, 3) := by decide +kernel
theorem d_K_told_64 : decode md_K_told.2.1 64 = .ok (.invokevirtual 92, 3) := by decide +kernel
theorem d_K_told_67 : decode md_K_told.2.1 67 = .ok (.ireturn, 1) := by decide +kernel
theorem d_K_told_68 : decode md_K_told.2.1 68 = .ok (.aload_n 0, 1) := by decide +kernel
theorem d_K_told_69 : decode md_K_told.2.1 69 = .ok (.getfield 31, 3) := by decide +kernel
theorem d_K_told_72 : decode md_K_told.2.1 72 = .ok (.getfield 244, 3) := by decide +kernel
theorem d_K_told_75 : decode md_K_told.2.1 75 = .ok (.ireturn, 1) := by decide +kernel
theorem d_K_told_76 : decode md_K_told.2.1 76 = .ok (.aload_n 0, 1) := by decide +kernel
theorem d_K_told_77 : decode md_K_told.2.1 77 = .ok (.getfield 35, 3) := by decide +kernel
theorem d_K_told_80 : decode md_K_told.2.1 80 = .ok (.getfield 244, 3) := by decide +kernel
theorem d_K_told_83 : decode md_K_told.2.1 83 = .ok (.ireturn, 1) := by decide +kernel
theorem d_K_told_84 : decode md_K_told.2.1 84 = .ok (.aload_n 0, 1) := by decide +kernel
theorem d_K_told_85 : decode md_K_told.2.1 85 = .ok (.getfield 54, 3) := by decide +kernel
theorem d_K_told_88 : decode md_K_told.2.1 88 = .ok (.ireturn, 1) := by decide +kernel
theorem d_K_told_89 : decode md_K_told.2.1 89 = .ok (.aload_n 0, 1) := by decide +kernel
theorem d_K_told_90 : decode md_K_told.2.1 90 = .ok (.getfield 57, 3) := by decide +kernel
theorem d_K_told_93 : decode md_K_told.2.1 93 = .ok (.ireturn, 1) := by decide +kernel
theorem d_K_told_94 : decode md_K_told.2.1 94 = .ok (.aload_n 0, 1) := by decide +kernel
theorem d_K_told_95 : decode md_K_told.2.1 95 = .ok (.getfield 60, 3) := by decide +kernel
theorem d_K_told_98 : decode md_K_told.2.1 98 = .ok (.ireturn, 1) := by decide +kernel
theorem d_K_told_99 : decode md_K_told.2.1 99 = .ok (.aload_n 0, 1) := by decide +kernel
theorem d_K_told_100 : decode md_K_told.2.1 100 = .ok (.getfield 63, 3) := by decide +kernel
theorem d_K_told_103 : decode md_K_told.2.1 103 = .ok (.ireturn, 1) := by decide +kernel
theorem d_K_told_104 : decode md_K_told.2.1 104 = .ok (.aload_n 0, 1) := by decide +kernel
theorem d_K_told_105 : decode md_K_told.2.1 105 = .ok (.getfield 66, 3) := by decide +kernel
theorem d_K_told_108 : decode md_K_told.2.1 108 = .ok (.ireturn, 1) := by decide +kernel
theorem d_K_told_109 : decode md_K_told.2.1 109 = .ok (.new 85, 3) := by decide +kernel
theorem d_K_told_112 : decode md_K_told.2.1 112 = .ok (.dup, 1) := by decide +kernel
theorem d_K_told_113 : decode md_K_told.2.1 113 = .ok (.ldc 247, 2) := by decide +kernel
theorem d_K_told_115 : decode md_K_told.2.1 115 = .ok (.invokespecial 89, 3) := by decide +kernel
theorem d_K_told_118 : decode md_K_told.2.1 118 = .ok (.athrow, 1) := by decide +kernel
theorem d_K_folded_0 : decode md_K_folded.2.1 0 = .ok (.aload_n 0, 1) := by decide +kernel
theorem d_K_folded_1 : decode md_K_folded.2.1 1 = .ok (.lload_n 1, 1) := by decide +kernel
theorem d_K_folded_2 : decode md_K_folded.2.1 2 = .ok (.invokevirtual 190, 3) := by decide +kernel
theorem d_K_folded_5 : decode md_K_folded.2.1 5 = .ok (.istore_n 3, 1) := by decide +kernel
theorem d_K_folded_6 : decode md_K_folded.2.1 6 = .ok (.iload_n 3, 1) := by decide +kernel
theorem d_K_folded_7 : decode md_K_folded.2.1 7 = .ok (.ifCond .ge 13, 3) := by decide +kernel
theorem d_K_folded_10 : decode md_K_folded.2.1 10 = .ok (.new 120, 3) := by decide +kernel
theorem d_K_folded_13 : decode md_K_folded.2.1 13 = .ok (.dup, 1) := by decide +kernel
theorem d_K_folded_14 : decode md_K_folded.2.1 14 = .ok (.ldc 194, 2) := by decide +kernel
theorem d_K_folded_16 : decode md_K_folded.2.1 16 = .ok (.invokespecial 124, 3) := by decide +kernel
theorem d_K_folded_19 : decode md_K_folded.2.1 19 = .ok (.athrow, 1) := by decide +kernel
theorem d_K_folded_20 : decode md_K_folded.2.1 20 = .ok (.aload_n 0, 1) := by decide +kernel
theorem d_K_folded_21 : decode md_K_folded.2.1 21 = .ok (.getfield 16, 3) := by decide +kernel
theorem d_K_folded_24 : decode md_K_folded.2.1 24 = .ok (.iload_n 3, 1) := by decide +kernel
theorem d_K_folded_25 : decode md_K_folded.2.1 25 = .ok (.invokevirtual 125, 3) := by decide +kernel
theorem d_K_folded_28 : decode md_K_folded.2.1 28 = .ok (.checkcast 196, 3) := by decide +kernel
theorem d_K_folded_31 : decode md_K_folded.2.1 31 = .ok (.invokevirtual 249, 3) := by decide +kernel
theorem d_K_folded_34 : decode md_K_folded.2.1 34 = .ok (.ireturn, 1) := by decide +kernel
theorem d_R_statesAreThoseFoldedAnew_0 : decode md_R_statesAreThoseFoldedAnew.2.1 0 = .ok (.iconst 0, 1) := by decide +kernel
theorem d_R_statesAreThoseFoldedAnew_1 : decode md_R_statesAreThoseFoldedAnew.2.1 1 = .ok (.istore_n 1, 1) := by decide +kernel
theorem d_R_statesAreThoseFoldedAnew_2 : decode md_R_statesAreThoseFoldedAnew.2.1 2 = .ok (.iload_n 1, 1) := by decide +kernel
theorem d_R_statesAreThoseFoldedAnew_3 : decode md_R_statesAreThoseFoldedAnew.2.1 3 = .ok (.aload_n 0, 1) := by decide +kernel
theorem d_R_statesAreThoseFoldedAnew_4 : decode md_R_statesAreThoseFoldedAnew.2.1 4 = .ok (.getfield 29, 3) := by decide +kernel
theorem d_R_statesAreThoseFoldedAnew_7 : decode md_R_statesAreThoseFoldedAnew.2.1 7 = .ok (.invokevirtual 50, 3) := by decide +kernel
theorem d_R_statesAreThoseFoldedAnew_10 : decode md_R_statesAreThoseFoldedAnew.2.1 10 = .ok (.if_icmp .ge 40, 3) := by decide +kernel
theorem d_R_statesAreThoseFoldedAnew_13 : decode md_R_statesAreThoseFoldedAnew.2.1 13 = .ok (.aload_n 0, 1) := by decide +kernel
theorem d_R_statesAreThoseFoldedAnew_14 : decode md_R_statesAreThoseFoldedAnew.2.1 14 = .ok (.getfield 33, 3) := by decide +kernel
theorem d_R_statesAreThoseFoldedAnew_17 : decode md_R_statesAreThoseFoldedAnew.2.1 17 = .ok (.iload_n 1, 1) := by decide +kernel
theorem d_R_statesAreThoseFoldedAnew_18 : decode md_R_statesAreThoseFoldedAnew.2.1 18 = .ok (.laload, 1) := by decide +kernel
theorem d_R_statesAreThoseFoldedAnew_19 : decode md_R_statesAreThoseFoldedAnew.2.1 19 = .ok (.aload_n 0, 1) := by decide +kernel
theorem d_R_statesAreThoseFoldedAnew_20 : decode md_R_statesAreThoseFoldedAnew.2.1 20 = .ok (.aload_n 0, 1) := by decide +kernel
theorem d_R_statesAreThoseFoldedAnew_21 : decode md_R_statesAreThoseFoldedAnew.2.1 21 = .ok (.getfield 18, 3) := by decide +kernel
theorem d_R_statesAreThoseFoldedAnew_24 : decode md_R_statesAreThoseFoldedAnew.2.1 24 = .ok (.aload_n 0, 1) := by decide +kernel
theorem d_R_statesAreThoseFoldedAnew_25 : decode md_R_statesAreThoseFoldedAnew.2.1 25 = .ok (.getfield 29, 3) := by decide +kernel
theorem d_R_statesAreThoseFoldedAnew_28 : decode md_R_statesAreThoseFoldedAnew.2.1 28 = .ok (.iload_n 1, 1) := by decide +kernel
theorem d_R_statesAreThoseFoldedAnew_29 : decode md_R_statesAreThoseFoldedAnew.2.1 29 = .ok (.invokevirtual 56, 3) := by decide +kernel
theorem d_R_statesAreThoseFoldedAnew_32 : decode md_R_statesAreThoseFoldedAnew.2.1 32 = .ok (.checkcast 60, 3) := by decide +kernel
theorem d_R_statesAreThoseFoldedAnew_35 : decode md_R_statesAreThoseFoldedAnew.2.1 35 = .ok (.invokevirtual 70, 3) := by decide +kernel
theorem d_R_statesAreThoseFoldedAnew_38 : decode md_R_statesAreThoseFoldedAnew.2.1 38 = .ok (.lcmp, 1) := by decide +kernel
theorem d_R_statesAreThoseFoldedAnew_39 : decode md_R_statesAreThoseFoldedAnew.2.1 39 = .ok (.ifCond .eq 5, 3) := by decide +kernel
theorem d_R_statesAreThoseFoldedAnew_42 : decode md_R_statesAreThoseFoldedAnew.2.1 42 = .ok (.iconst 0, 1) := by decide +kernel
theorem d_R_statesAreThoseFoldedAnew_43 : decode md_R_statesAreThoseFoldedAnew.2.1 43 = .ok (.ireturn, 1) := by decide +kernel
theorem d_R_statesAreThoseFoldedAnew_44 : decode md_R_statesAreThoseFoldedAnew.2.1 44 = .ok (.iinc 1 1, 3) := by decide +kernel
theorem d_R_statesAreThoseFoldedAnew_47 : decode md_R_statesAreThoseFoldedAnew.2.1 47 = .ok (.goto (-45), 3) := by decide +kernel
theorem d_R_statesAreThoseFoldedAnew_50 : decode md_R_statesAreThoseFoldedAnew.2.1 50 = .ok (.iconst 1, 1) := by decide +kernel
theorem d_R_statesAreThoseFoldedAnew_51 : decode md_R_statesAreThoseFoldedAnew.2.1 51 = .ok (.ireturn, 1) := by decide +kernel
theorem d_K_joined_0 : decode md_K_joined.2.1 0 = .ok (.aload_n 0, 1) := by decide +kernel
theorem d_K_joined_1 : decode md_K_joined.2.1 1 = .ok (.iload_n 1, 1) := by decide +kernel
theorem d_K_joined_2 : decode md_K_joined.2.1 2 = .ok (.invokevirtual 116, 3) := by decide +kernel
theorem d_K_joined_5 : decode md_K_joined.2.1 5 = .ok (.ifCond .ne 13, 3) := by decide +kernel
theorem d_K_joined_8 : decode md_K_joined.2.1 8 = .ok (.new 120, 3) := by decide +kernel
theorem d_K_joined_11 : decode md_K_joined.2.1 11 = .ok (.dup, 1) := by decide +kernel
theorem d_K_joined_12 : decode md_K_joined.2.1 12 = .ok (.ldc 122, 2) := by decide +kernel
theorem d_K_joined_14 : decode md_K_joined.2.1 14 = .ok (.invokespecial 124, 3) := by decide +kernel
theorem d_K_joined_17 : decode md_K_joined.2.1 17 = .ok (.athrow, 1) := by decide +kernel
theorem d_K_joined_18 : decode md_K_joined.2.1 18 = .ok (.aload_n 0, 1) := by decide +kernel
theorem d_K_joined_19 : decode md_K_joined.2.1 19 = .ok (.getfield 10, 3) := by decide +kernel
theorem d_K_joined_22 : decode md_K_joined.2.1 22 = .ok (.iload_n 1, 1) := by decide +kernel
theorem d_K_joined_23 : decode md_K_joined.2.1 23 = .ok (.invokevirtual 125, 3) := by decide +kernel
theorem d_K_joined_26 : decode md_K_joined.2.1 26 = .ok (.checkcast 107, 3) := by decide +kernel
theorem d_K_joined_29 : decode md_K_joined.2.1 29 = .ok (.invokevirtual 252, 3) := by decide +kernel
theorem d_K_joined_32 : decode md_K_joined.2.1 32 = .ok (.ifCond .ne 5, 3) := by decide +kernel
theorem d_K_joined_35 : decode md_K_joined.2.1 35 = .ok (.iconst 1, 1) := by decide +kernel
theorem d_K_joined_36 : decode md_K_joined.2.1 36 = .ok (.ireturn, 1) := by decide +kernel
theorem d_K_joined_37 : decode md_K_joined.2.1 37 = .ok (.iconst 0, 1) := by decide +kernel
theorem d_K_joined_38 : decode md_K_joined.2.1 38 = .ok (.istore_n 2, 1) := by decide +kernel
theorem d_K_joined_39 : decode md_K_joined.2.1 39 = .ok (.iload_n 2, 1) := by decide +kernel
theorem d_K_joined_40 : decode md_K_joined.2.1 40 = .ok (.aload_n 0, 1) := by decide +kernel
theorem d_K_joined_41 : decode md_K_joined.2.1 41 = .ok (.getfield 16, 3) := by decide +kernel
theorem d_K_joined_44 : decode md_K_joined.2.1 44 = .ok (.invokevirtual 92, 3) := by decide +kernel
theorem d_K_joined_47 : decode md_K_joined.2.1 47 = .ok (.if_icmp .ge 29, 3) := by decide +kernel
theorem d_K_joined_50 : decode md_K_joined.2.1 50 = .ok (.aload_n 0, 1) := by decide +kernel
theorem d_K_joined_51 : decode md_K_joined.2.1 51 = .ok (.getfield 16, 3) := by decide +kernel
theorem d_K_joined_54 : decode md_K_joined.2.1 54 = .ok (.iload_n 2, 1) := by decide +kernel
theorem d_K_joined_55 : decode md_K_joined.2.1 55 = .ok (.invokevirtual 125, 3) := by decide +kernel
theorem d_K_joined_58 : decode md_K_joined.2.1 58 = .ok (.checkcast 196, 3) := by decide +kernel
theorem d_K_joined_61 : decode md_K_joined.2.1 61 = .ok (.iload_n 1, 1) := by decide +kernel
theorem d_K_joined_62 : decode md_K_joined.2.1 62 = .ok (.invokevirtual 255, 3) := by decide +kernel
theorem d_K_joined_65 : decode md_K_joined.2.1 65 = .ok (.ifCond .ne 5, 3) := by decide +kernel
theorem d_K_joined_68 : decode md_K_joined.2.1 68 = .ok (.iconst 0, 1) := by decide +kernel
theorem d_K_joined_69 : decode md_K_joined.2.1 69 = .ok (.ireturn, 1) := by decide +kernel
theorem d_K_joined_70 : decode md_K_joined.2.1 70 = .ok (.iinc 2 1, 3) := by decide +kernel
theorem d_K_joined_73 : decode md_K_joined.2.1 73 = .ok (.goto (-34), 3) := by decide +kernel
theorem d_K_joined_76 : decode md_K_joined.2.1 76 = .ok (.iconst 1, 1) := by decide +kernel
theorem d_K_joined_77 : decode md_K_joined.2.1 77 = .ok (.ireturn, 1) := by decide +kernel
theorem d_R_stateIsThatFoldedBackwards_0 : decode md_R_stateIsThatFoldedBackwards.2.1 0 = .ok (.aload_n 0, 1) := by decide +kernel
theorem d_R_stateIsThatFoldedBackwards_1 : decode md_R_stateIsThatFoldedBackwards.2.1 1 = .ok (.getfield 29, 3) := by decide +kernel
theorem d_R_stateIsThatFoldedBackwards_4 : decode md_R_stateIsThatFoldedBackwards.2.1 4 = .ok (.iload_n 1, 1) := by decide +kernel
theorem d_R_stateIsThatFoldedBackwards_5 : decode md_R_stateIsThatFoldedBackwards.2.1 5 = .ok (.invokevirtual 56, 3) := by decide +kernel
theorem d_R_stateIsThatFoldedBackwards_8 : decode md_R_stateIsThatFoldedBackwards.2.1 8 = .ok (.checkcast 60, 3) := by decide +kernel
theorem d_R_stateIsThatFoldedBackwards_11 : decode md_R_stateIsThatFoldedBackwards.2.1 11 = .ok (.astore_n 2, 1) := by decide +kernel
theorem d_R_stateIsThatFoldedBackwards_12 : decode md_R_stateIsThatFoldedBackwards.2.1 12 = .ok (.aload_n 2, 1) := by decide +kernel
theorem d_R_stateIsThatFoldedBackwards_13 : decode md_R_stateIsThatFoldedBackwards.2.1 13 = .ok (.getfield 84, 3) := by decide +kernel
theorem d_R_stateIsThatFoldedBackwards_16 : decode md_R_stateIsThatFoldedBackwards.2.1 16 = .ok (.lstore_n 3, 1) := by decide +kernel
theorem d_R_stateIsThatFoldedBackwards_17 : decode md_R_stateIsThatFoldedBackwards.2.1 17 = .ok (.aload_n 0, 1) := by decide +kernel
theorem d_R_stateIsThatFoldedBackwards_18 : decode md_R_stateIsThatFoldedBackwards.2.1 18 = .ok (.getfield 18, 3) := by decide +kernel
theorem d_R_stateIsThatFoldedBackwards_21 : decode md_R_stateIsThatFoldedBackwards.2.1 21 = .ok (.iconst 1, 1) := by decide +kernel
theorem d_R_stateIsThatFoldedBackwards_22 : decode md_R_stateIsThatFoldedBackwards.2.1 22 = .ok (.isub, 1) := by decide +kernel
theorem d_R_stateIsThatFoldedBackwards_23 : decode md_R_stateIsThatFoldedBackwards.2.1 23 = .ok (.istore 5, 2) := by decide +kernel
theorem d_R_stateIsThatFoldedBackwards_25 : decode md_R_stateIsThatFoldedBackwards.2.1 25 = .ok (.iload 5, 2) := by decide +kernel
theorem d_R_stateIsThatFoldedBackwards_27 : decode md_R_stateIsThatFoldedBackwards.2.1 27 = .ok (.ifCond .lt 18, 3) := by decide +kernel
theorem d_R_stateIsThatFoldedBackwards_30 : decode md_R_stateIsThatFoldedBackwards.2.1 30 = .ok (.aload_n 0, 1) := by decide +kernel
theorem d_R_stateIsThatFoldedBackwards_31 : decode md_R_stateIsThatFoldedBackwards.2.1 31 = .ok (.iload 5, 2) := by decide +kernel
theorem d_R_stateIsThatFoldedBackwards_33 : decode md_R_stateIsThatFoldedBackwards.2.1 33 = .ok (.aload_n 2, 1) := by decide +kernel
theorem d_R_stateIsThatFoldedBackwards_34 : decode md_R_stateIsThatFoldedBackwards.2.1 34 = .ok (.lload_n 3, 1) := by decide +kernel
theorem d_R_stateIsThatFoldedBackwards_35 : decode md_R_stateIsThatFoldedBackwards.2.1 35 = .ok (.invokevirtual 66, 3) := by decide +kernel
theorem d_R_stateIsThatFoldedBackwards_38 : decode md_R_stateIsThatFoldedBackwards.2.1 38 = .ok (.lstore_n 3, 1) := by decide +kernel
theorem d_R_stateIsThatFoldedBackwards_39 : decode md_R_stateIsThatFoldedBackwards.2.1 39 = .ok (.iinc 5 (-1), 3) := by decide +kernel
theorem d_R_stateIsThatFoldedBackwards_42 : decode md_R_stateIsThatFoldedBackwards.2.1 42 = .ok (.goto (-17), 3) := by decide +kernel
theorem d_R_stateIsThatFoldedBackwards_45 : decode md_R_stateIsThatFoldedBackwards.2.1 45 = .ok (.lload_n 3, 1) := by decide +kernel
theorem d_R_stateIsThatFoldedBackwards_46 : decode md_R_stateIsThatFoldedBackwards.2.1 46 = .ok (.aload_n 0, 1) := by decide +kernel
theorem d_R_stateIsThatFoldedBackwards_47 : decode md_R_stateIsThatFoldedBackwards.2.1 47 = .ok (.getfield 33, 3) := by decide +kernel
theorem d_R_stateIsThatFoldedBackwards_50 : decode md_R_stateIsThatFoldedBackwards.2.1 50 = .ok (.iload_n 1, 1) := by decide +kernel
theorem d_R_stateIsThatFoldedBackwards_51 : decode md_R_stateIsThatFoldedBackwards.2.1 51 = .ok (.laload, 1) := by decide +kernel
theorem d_R_stateIsThatFoldedBackwards_52 : decode md_R_stateIsThatFoldedBackwards.2.1 52 = .ok (.lcmp, 1) := by decide +kernel
theorem d_R_stateIsThatFoldedBackwards_53 : decode md_R_stateIsThatFoldedBackwards.2.1 53 = .ok (.ifCond .ne 7, 3) := by decide +kernel
theorem d_R_stateIsThatFoldedBackwards_56 : decode md_R_stateIsThatFoldedBackwards.2.1 56 = .ok (.iconst 1, 1) := by decide +kernel
theorem d_R_stateIsThatFoldedBackwards_57 : decode md_R_stateIsThatFoldedBackwards.2.1 57 = .ok (.goto 4, 3) := by decide +kernel
theorem d_R_stateIsThatFoldedBackwards_60 : decode md_R_stateIsThatFoldedBackwards.2.1 60 = .ok (.iconst 0, 1) := by decide +kernel
theorem d_R_stateIsThatFoldedBackwards_61 : decode md_R_stateIsThatFoldedBackwards.2.1 61 = .ok (.ireturn, 1) := by decide +kernel
