theorem d_L_cell_0 : decode md_L_cell.2.1 0 = .ok (.iload_n 1, 1) := by decide +kernel
theorem d_L_cell_1 : decode md_L_cell.2.1 1 = .ok (.aload_n 0, 1) := by decide +kernel
theorem d_L_cell_2 : decode md_L_cell.2.1 2 = .ok (.arraylength, 1) := by decide +kernel
theorem d_L_cell_3 : decode md_L_cell.2.1 3 = .ok (.if_icmp .ge 9, 3) := by decide +kernel
theorem d_L_cell_6 : decode md_L_cell.2.1 6 = .ok (.aload_n 0, 1) := by decide +kernel
theorem d_L_cell_7 : decode md_L_cell.2.1 7 = .ok (.iload_n 1, 1) := by decide +kernel
theorem d_L_cell_8 : decode md_L_cell.2.1 8 = .ok (.iaload, 1) := by decide +kernel
theorem d_L_cell_9 : decode md_L_cell.2.1 9 = .ok (.goto 4, 3) := by decide +kernel
theorem d_L_cell_12 : decode md_L_cell.2.1 12 = .ok (.iconst 0, 1) := by decide +kernel
theorem d_L_cell_13 : decode md_L_cell.2.1 13 = .ok (.ireturn, 1) := by decide +kernel
theorem d_L_fold_0 : decode md_L_fold.2.1 0 = .ok (.aload 6, 2) := by decide +kernel
theorem d_L_fold_2 : decode md_L_fold.2.1 2 = .ok (.iconst 0, 1) := by decide +kernel
theorem d_L_fold_3 : decode md_L_fold.2.1 3 = .ok (.aload_n 0, 1) := by decide +kernel
theorem d_L_fold_4 : decode md_L_fold.2.1 4 = .ok (.iload_n 1, 1) := by decide +kernel
theorem d_L_fold_5 : decode md_L_fold.2.1 5 = .ok (.lload_n 2, 1) := by decide +kernel
theorem d_L_fold_6 : decode md_L_fold.2.1 6 = .ok (.lload 4, 2) := by decide +kernel
theorem d_L_fold_8 : decode md_L_fold.2.1 8 = .ok (.invokevirtual 7, 3) := by decide +kernel
theorem d_L_fold_11 : decode md_L_fold.2.1 11 = .ok (.i2l, 1) := by decide +kernel
theorem d_L_fold_12 : decode md_L_fold.2.1 12 = .ok (.lastore, 1) := by decide +kernel
theorem d_L_fold_13 : decode md_L_fold.2.1 13 = .ok (.goto 11, 3) := by decide +kernel
theorem d_L_fold_16 : decode md_L_fold.2.1 16 = .ok (.astore 7, 2) := by decide +kernel
theorem d_L_fold_18 : decode md_L_fold.2.1 18 = .ok (.iconst 1, 1) := by decide +kernel
theorem d_L_fold_19 : decode md_L_fold.2.1 19 = .ok (.ireturn, 1) := by decide +kernel
theorem d_L_fold_20 : decode md_L_fold.2.1 20 = .ok (.astore 7, 2) := by decide +kernel
theorem d_L_fold_22 : decode md_L_fold.2.1 22 = .ok (.iconst 2, 1) := by decide +kernel
theorem d_L_fold_23 : decode md_L_fold.2.1 23 = .ok (.ireturn, 1) := by decide +kernel
theorem d_L_fold_24 : decode md_L_fold.2.1 24 = .ok (.iconst 0, 1) := by decide +kernel
theorem d_L_fold_25 : decode md_L_fold.2.1 25 = .ok (.ireturn, 1) := by decide +kernel
theorem d_L_failsAt_0 : decode md_L_failsAt.2.1 0 = .ok (.aload 4, 2) := by decide +kernel
theorem d_L_failsAt_2 : decode md_L_failsAt.2.1 2 = .ok (.iconst 0, 1) := by decide +kernel
theorem d_L_failsAt_3 : decode md_L_failsAt.2.1 3 = .ok (.aload_n 0, 1) := by decide +kernel
theorem d_L_failsAt_4 : decode md_L_failsAt.2.1 4 = .ok (.iload_n 1, 1) := by decide +kernel
theorem d_L_failsAt_5 : decode md_L_failsAt.2.1 5 = .ok (.lload_n 2, 1) := by decide +kernel
theorem d_L_failsAt_6 : decode md_L_failsAt.2.1 6 = .ok (.invokevirtual 17, 3) := by decide +kernel
theorem d_L_failsAt_9 : decode md_L_failsAt.2.1 9 = .ok (.i2l, 1) := by decide +kernel
theorem d_L_failsAt_10 : decode md_L_failsAt.2.1 10 = .ok (.lastore, 1) := by decide +kernel
theorem d_L_failsAt_11 : decode md_L_failsAt.2.1 11 = .ok (.goto 11, 3) := by decide +kernel
theorem d_L_failsAt_14 : decode md_L_failsAt.2.1 14 = .ok (.astore 5, 2) := by decide +kernel
theorem d_L_failsAt_16 : decode md_L_failsAt.2.1 16 = .ok (.iconst 1, 1) := by decide +kernel
theorem d_L_failsAt_17 : decode md_L_failsAt.2.1 17 = .ok (.ireturn, 1) := by decide +kernel
theorem d_L_failsAt_18 : decode md_L_failsAt.2.1 18 = .ok (.astore 5, 2) := by decide +kernel
theorem d_L_failsAt_20 : decode md_L_failsAt.2.1 20 = .ok (.iconst 2, 1) := by decide +kernel
theorem d_L_failsAt_21 : decode md_L_failsAt.2.1 21 = .ok (.ireturn, 1) := by decide +kernel
theorem d_L_failsAt_22 : decode md_L_failsAt.2.1 22 = .ok (.iconst 0, 1) := by decide +kernel
theorem d_L_failsAt_23 : decode md_L_failsAt.2.1 23 = .ok (.ireturn, 1) := by decide +kernel
theorem d_L_rule_0 : decode md_L_rule.2.1 0 = .ok (.aload_n 3, 1) := by decide +kernel
theorem d_L_rule_1 : decode md_L_rule.2.1 1 = .ok (.iconst 0, 1) := by decide +kernel
theorem d_L_rule_2 : decode md_L_rule.2.1 2 = .ok (.aload_n 0, 1) := by decide +kernel
theorem d_L_rule_3 : decode md_L_rule.2.1 3 = .ok (.iload_n 1, 1) := by decide +kernel
theorem d_L_rule_4 : decode md_L_rule.2.1 4 = .ok (.iload_n 2, 1) := by decide +kernel
theorem d_L_rule_5 : decode md_L_rule.2.1 5 = .ok (.invokevirtual 23, 3) := by decide +kernel
theorem d_L_rule_8 : decode md_L_rule.2.1 8 = .ok (.i2l, 1) := by decide +kernel
theorem d_L_rule_9 : decode md_L_rule.2.1 9 = .ok (.lastore, 1) := by decide +kernel
theorem d_L_rule_10 : decode md_L_rule.2.1 10 = .ok (.goto 7, 3) := by decide +kernel
theorem d_L_rule_13 : decode md_L_rule.2.1 13 = .ok (.astore 4, 2) := by decide +kernel
theorem d_L_rule_15 : decode md_L_rule.2.1 15 = .ok (.iconst 1, 1) := by decide +kernel
theorem d_L_rule_16 : decode md_L_rule.2.1 16 = .ok (.ireturn, 1) := by decide +kernel
theorem d_L_rule_17 : decode md_L_rule.2.1 17 = .ok (.iconst 0, 1) := by decide +kernel
theorem d_L_rule_18 : decode md_L_rule.2.1 18 = .ok (.ireturn, 1) := by decide +kernel
theorem d_L_row_0 : decode md_L_row.2.1 0 = .ok (.aload 7, 2) := by decide +kernel
theorem d_L_row_2 : decode md_L_row.2.1 2 = .ok (.iconst 0, 1) := by decide +kernel
theorem d_L_row_3 : decode md_L_row.2.1 3 = .ok (.aload_n 0, 1) := by decide +kernel
theorem d_L_row_4 : decode md_L_row.2.1 4 = .ok (.lload_n 1, 1) := by decide +kernel
theorem d_L_row_5 : decode md_L_row.2.1 5 = .ok (.lload_n 3, 1) := by decide +kernel
theorem d_L_row_6 : decode md_L_row.2.1 6 = .ok (.lload 5, 2) := by decide +kernel
theorem d_L_row_8 : decode md_L_row.2.1 8 = .ok (.invokevirtual 27, 3) := by decide +kernel
theorem d_L_row_11 : decode md_L_row.2.1 11 = .ok (.i2l, 1) := by decide +kernel
theorem d_L_row_12 : decode md_L_row.2.1 12 = .ok (.lastore, 1) := by decide +kernel
theorem d_L_row_13 : decode md_L_row.2.1 13 = .ok (.goto 11, 3) := by decide +kernel
theorem d_L_row_16 : decode md_L_row.2.1 16 = .ok (.astore 8, 2) := by decide +kernel
theorem d_L_row_18 : decode md_L_row.2.1 18 = .ok (.iconst 1, 1) := by decide +kernel
theorem d_L_row_19 : decode md_L_row.2.1 19 = .ok (.ireturn, 1) := by decide +kernel
theorem d_L_row_20 : decode md_L_row.2.1 20 = .ok (.astore 8, 2) := by decide +kernel
theorem d_L_row_22 : decode md_L_row.2.1 22 = .ok (.iconst 2, 1) := by decide +kernel
theorem d_L_row_23 : decode md_L_row.2.1 23 = .ok (.ireturn, 1) := by decide +kernel
theorem d_L_row_24 : decode md_L_row.2.1 24 = .ok (.iconst 0, 1) := by decide +kernel
theorem d_L_row_25 : decode md_L_row.2.1 25 = .ok (.ireturn, 1) := by decide +kernel
theorem d_L_resume_0 : decode md_L_resume.2.1 0 = .ok (.aload_n 0, 1) := by decide +kernel
theorem d_L_resume_1 : decode md_L_resume.2.1 1 = .ok (.lload_n 1, 1) := by decide +kernel
theorem d_L_resume_2 : decode md_L_resume.2.1 2 = .ok (.invokevirtual 31, 3) := by decide +kernel
theorem d_L_resume_5 : decode md_L_resume.2.1 5 = .ok (.goto 6, 3) := by decide +kernel
theorem d_L_resume_8 : decode md_L_resume.2.1 8 = .ok (.astore_n 3, 1) := by decide +kernel
theorem d_L_resume_9 : decode md_L_resume.2.1 9 = .ok (.iconst 1, 1) := by decide +kernel
theorem d_L_resume_10 : decode md_L_resume.2.1 10 = .ok (.ireturn, 1) := by decide +kernel
theorem d_L_resume_11 : decode md_L_resume.2.1 11 = .ok (.iconst 0, 1) := by decide +kernel
theorem d_L_resume_12 : decode md_L_resume.2.1 12 = .ok (.ireturn, 1) := by decide +kernel
theorem d_L_state_0 : decode md_L_state.2.1 0 = .ok (.aload 4, 2) := by decide +kernel
theorem d_L_state_2 : decode md_L_state.2.1 2 = .ok (.iconst 0, 1) := by decide +kernel
theorem d_L_state_3 : decode md_L_state.2.1 3 = .ok (.aload_n 0, 1) := by decide +kernel
theorem d_L_state_4 : decode md_L_state.2.1 4 = .ok (.lload_n 1, 1) := by decide +kernel
theorem d_L_state_5 : decode md_L_state.2.1 5 = .ok (.iload_n 3, 1) := by decide +kernel
theorem d_L_state_6 : decode md_L_state.2.1 6 = .ok (.invokevirtual 35, 3) := by decide +kernel
theorem d_L_state_9 : decode md_L_state.2.1 9 = .ok (.lastore, 1) := by decide +kernel
theorem d_L_state_10 : decode md_L_state.2.1 10 = .ok (.goto 7, 3) := by decide +kernel
theorem d_L_state_13 : decode md_L_state.2.1 13 = .ok (.astore 5, 2) := by decide +kernel
theorem d_L_state_15 : decode md_L_state.2.1 15 = .ok (.iconst 1, 1) := by decide +kernel
theorem d_L_state_16 : decode md_L_state.2.1 16 = .ok (.ireturn, 1) := by decide +kernel
theorem d_L_state_17 : decode md_L_state.2.1 17 = .ok (.iconst 0, 1) := by decide +kernel
theorem d_L_state_18 : decode md_L_state.2.1 18 = .ok (.ireturn, 1) := by decide +kernel
theorem d_L_key_0 : decode md_L_key.2.1 0 = .ok (.aload 4, 2) := by decide +kernel
theorem d_L_key_2 : decode md_L_key.2.1 2 = .ok (.iconst 0, 1) := by decide +kernel
theorem d_L_key_3 : decode md_L_key.2.1 3 = .ok (.aload_n 0, 1) := by decide +kernel
theorem d_L_key_4 : decode md_L_key.2.1 4 = .ok (.lload_n 1, 1) := by decide +kernel
theorem d_L_key_5 : decode md_L_key.2.1 5 = .ok (.iload_n 3, 1) := by decide +kernel
theorem d_L_key_6 : decode md_L_key.2.1 6 = .ok (.invokevirtual 39, 3) := by decide +kernel
theorem d_L_key_9 : decode md_L_key.2.1 9 = .ok (.i2l, 1) := by decide +kernel
theorem d_L_key_10 : decode md_L_key.2.1 10 = .ok (.lastore, 1) := by decide +kernel
theorem d_L_key_11 : decode md_L_key.2.1 11 = .ok (.goto 7, 3) := by decide +kernel
theorem d_L_key_14 : decode md_L_key.2.1 14 = .ok (.astore 5, 2) := by decide +kernel
theorem d_L_key_16 : decode md_L_key.2.1 16 = .ok (.iconst 1, 1) := by decide +kernel
theorem d_L_key_17 : decode md_L_key.2.1 17 = .ok (.ireturn, 1) := by decide +kernel
theorem d_L_key_18 : decode md_L_key.2.1 18 = .ok (.iconst 0, 1) := by decide +kernel
theorem d_L_key_19 : decode md_L_key.2.1 19 = .ok (.ireturn, 1) := by decide +kernel
theorem d_L_rowOf_0 : decode md_L_rowOf.2.1 0 = .ok (.aload 5, 2) := by decide +kernel
theorem d_L_rowOf_2 : decode md_L_rowOf.2.1 2 = .ok (.iconst 0, 1) := by decide +kernel
theorem d_L_rowOf_3 : decode md_L_rowOf.2.1 3 = .ok (.aload_n 0, 1) := by decide +kernel
theorem d_L_rowOf_4 : decode md_L_rowOf.2.1 4 = .ok (.lload_n 1, 1) := by decide +kernel
theorem d_L_rowOf_5 : decode md_L_rowOf.2.1 5 = .ok (.iload_n 3, 1) := by decide +kernel
theorem d_L_rowOf_6 : decode md_L_rowOf.2.1 6 = .ok (.iload 4, 2) := by decide +kernel
theorem d_L_rowOf_8 : decode md_L_rowOf.2.1 8 = .ok (.invokevirtual 43, 3) := by decide +kernel
theorem d_L_rowOf_11 : decode md_L_rowOf.2.1 11 = .ok (.lastore, 1) := by decide +kernel
theorem d_L_rowOf_12 : decode md_L_rowOf.2.1 12 = .ok (.goto 7, 3) := by decide +kernel
theorem d_L_rowOf_15 : decode md_L_rowOf.2.1 15 = .ok (.astore 6, 2) := by decide +kernel
theorem d_L_rowOf_17 : decode md_L_rowOf.2.1 17 = .ok (.iconst 1, 1) := by decide +kernel
theorem d_L_rowOf_18 : decode md_L_rowOf.2.1 18 = .ok (.ireturn, 1) := by decide +kernel
theorem d_L_rowOf_19 : decode md_L_rowOf.2.1 19 = .ok (.iconst 0, 1) := by decide +kernel
theorem d_L_rowOf_20 : decode md_L_rowOf.2.1 20 = .ok (.ireturn, 1) := by decide +kernel
theorem d_L_aside_0 : decode md_L_aside.2.1 0 = .ok (.aload_n 3, 1) := by decide +kernel
theorem d_L_aside_1 : decode md_L_aside.2.1 1 = .ok (.iconst 0, 1) := by decide +kernel
theorem d_L_aside_2 : decode md_L_aside.2.1 2 = .ok (.aload_n 0, 1) := by decide +kernel
theorem d_L_aside_3 : decode md_L_aside.2.1 3 = .ok (.iload_n 1, 1) := by decide +kernel
theorem d_L_aside_4 : decode md_L_aside.2.1 4 = .ok (.iload_n 2, 1) := by decide +kernel
theorem d_L_aside_5 : decode md_L_aside.2.1 5 = .ok (.invokevirtual 47, 3) := by decide +kernel
theorem d_L_aside_8 : decode md_L_aside.2.1 8 = .ok (.lastore, 1) := by decide +kernel
theorem d_L_aside_9 : decode md_L_aside.2.1 9 = .ok (.goto 7, 3) := by decide +kernel
theorem d_L_aside_12 : decode md_L_aside.2.1 12 = .ok (.astore 4, 2) := by decide +kernel
theorem d_L_aside_14 : decode md_L_aside.2.1 14 = .ok (.iconst 1, 1) := by decide +kernel
theorem d_L_aside_15 : decode md_L_aside.2.1 15 = .ok (.ireturn, 1) := by decide +kernel
theorem d_L_aside_16 : decode md_L_aside.2.1 16 = .ok (.iconst 0, 1) := by decide +kernel
theorem d_L_aside_17 : decode md_L_aside.2.1 17 = .ok (.ireturn, 1) := by decide +kernel
theorem d_L_output_0 : decode md_L_output.2.1 0 = .ok (.aload_n 3, 1) := by decide +kernel
theorem d_L_output_1 : decode md_L_output.2.1 1 = .ok (.iconst 0, 1) := by decide +kernel
theorem d_L_output_2 : decode md_L_output.2.1 2 = .ok (.aload_n 0, 1) := by decide +kernel
theorem d_L_output_3 : decode md_L_output.2.1 3 = .ok (.iload_n 1, 1) := by decide +kernel
theorem d_L_output_4 : decode md_L_output.2.1 4 = .ok (.iload_n 2, 1) := by decide +kernel
theorem d_L_output_5 : decode md_L_output.2.1 5 = .ok (.invokevirtual 51, 3) := by decide +kernel
theorem d_L_output_8 : decode md_L_output.2.1 8 = .ok (.lastore, 1) := by decide +kernel
theorem d_L_output_9 : decode md_L_output.2.1 9 = .ok (.goto 7, 3) := by decide +kernel
theorem d_L_output_12 : decode md_L_output.2.1 12 = .ok (.astore 4, 2) := by decide +kernel
theorem d_L_output_14 : decode md_L_output.2.1 14 = .ok (.iconst 1, 1) := by decide +kernel
theorem d_L_output_15 : decode md_L_output.2.1 15 = .ok (.ireturn, 1) := by decide +kernel
theorem d_L_output_16 : decode md_L_output.2.1 16 = .ok (.iconst 0, 1) := by decide +kernel
theorem d_L_output_17 : decode md_L_output.2.1 17 = .ok (.ireturn, 1) := by decide +kernel
theorem d_L_watermark_0 : decode md_L_watermark.2.1 0 = .ok (.aload_n 1, 1) := by decide +kernel
theorem d_L_watermark_1 : decode md_L_watermark.2.1 1 = .ok (.iconst 0, 1) := by decide +kernel
theorem d_L_watermark_2 : decode md_L_watermark.2.1 2 = .ok (.aload_n 0, 1) := by decide +kernel
theorem d_L_watermark_3 : decode md_L_watermark.2.1 3 = .ok (.invokevirtual 54, 3) := by decide +kernel
theorem d_L_watermark_6 : decode md_L_watermark.2.1 6 = .ok (.lastore, 1) := by decide +kernel
theorem d_L_watermark_7 : decode md_L_watermark.2.1 7 = .ok (.goto 6, 3) := by decide +kernel
theorem d_L_watermark_10 : decode md_L_watermark.2.1 10 = .ok (.astore_n 2, 1) := by decide +kernel
theorem d_L_watermark_11 : decode md_L_watermark.2.1 11 = .ok (.iconst 1, 1) := by decide +kernel
theorem d_L_watermark_12 : decode md_L_watermark.2.1 12 = .ok (.ireturn, 1) := by decide +kernel
theorem d_L_watermark_13 : decode md_L_watermark.2.1 13 = .ok (.iconst 0, 1) := by decide +kernel
theorem d_L_watermark_14 : decode md_L_watermark.2.1 14 = .ok (.ireturn, 1) := by decide +kernel
theorem d_L_told_0 : decode md_L_told.2.1 0 = .ok (.aload_n 2, 1) := by decide +kernel
theorem d_L_told_1 : decode md_L_told.2.1 1 = .ok (.iconst 0, 1) := by decide +kernel
theorem d_L_told_2 : decode md_L_told.2.1 2 = .ok (.aload_n 0, 1) := by decide +kernel
theorem d_L_told_3 : decode md_L_told.2.1 3 = .ok (.iload_n 1, 1) := by decide +kernel
theorem d_L_told_4 : decode md_L_told.2.1 4 = .ok (.invokevirtual 58, 3) := by decide +kernel
theorem d_L_told_7 : decode md_L_told.2.1 7 = .ok (.i2l, 1) := by decide +kernel
theorem d_L_told_8 : decode md_L_told.2.1 8 = .ok (.lastore, 1) := by decide +kernel
theorem d_L_told_9 : decode md_L_told.2.1 9 = .ok (.goto 6, 3) := by decide +kernel
theorem d_L_told_12 : decode md_L_told.2.1 12 = .ok (.astore_n 3, 1) := by decide +kernel
theorem d_L_told_13 : decode md_L_told.2.1 13 = .ok (.iconst 1, 1) := by decide +kernel
theorem d_L_told_14 : decode md_L_told.2.1 14 = .ok (.ireturn, 1) := by decide +kernel
theorem d_L_told_15 : decode md_L_told.2.1 15 = .ok (.iconst 0, 1) := by decide +kernel
theorem d_L_told_16 : decode md_L_told.2.1 16 = .ok (.ireturn, 1) := by decide +kernel
theorem d_L_folded_0 : decode md_L_folded.2.1 0 = .ok (.aload_n 3, 1) := by decide +kernel
theorem d_L_folded_1 : decode md_L_folded.2.1 1 = .ok (.iconst 0, 1) := by decide +kernel
theorem d_L_folded_2 : decode md_L_folded.2.1 2 = .ok (.aload_n 0, 1) := by decide +kernel
theorem d_L_folded_3 : decode md_L_folded.2.1 3 = .ok (.lload_n 1, 1) := by decide +kernel
theorem d_L_folded_4 : decode md_L_folded.2.1 4 = .ok (.invokevirtual 62, 3) := by decide +kernel
theorem d_L_folded_7 : decode md_L_folded.2.1 7 = .ok (.ifCond .eq 7, 3) := by decide +kernel
theorem d_L_folded_10 : decode md_L_folded.2.1 10 = .ok (.lconst 1, 1) := by decide +kernel
theorem d_L_folded_11 : decode md_L_folded.2.1 11 = .ok (.goto 4, 3) := by decide +kernel
theorem d_L_folded_14 : decode md_L_folded.2.1 14 = .ok (.lconst 0, 1) := by decide +kernel
theorem d_L_folded_15 : decode md_L_folded.2.1 15 = .ok (.lastore, 1) := by decide +kernel
theorem d_L_folded_16 : decode md_L_folded.2.1 16 = .ok (.goto 7, 3) := by decide +kernel
theorem d_L_folded_19 : decode md_L_folded.2.1 19 = .ok (.astore 4, 2) := by decide +kernel
theorem d_L_folded_21 : decode md_L_folded.2.1 21 = .ok (.iconst 1, 1) := by decide +kernel
theorem d_L_folded_22 : decode md_L_folded.2.1 22 = .ok (.ireturn, 1) := by decide +kernel
theorem d_L_folded_23 : decode md_L_folded.2.1 23 = .ok (.iconst 0, 1) := by decide +kernel
theorem d_L_folded_24 : decode md_L_folded.2.1 24 = .ok (.ireturn, 1) := by decide +kernel
theorem d_L_joined_0 : decode md_L_joined.2.1 0 = .ok (.aload_n 2, 1) := by decide +kernel
theorem d_L_joined_1 : decode md_L_joined.2.1 1 = .ok (.iconst 0, 1) := by decide +kernel
theorem d_L_joined_2 : decode md_L_joined.2.1 2 = .ok (.aload_n 0, 1) := by decide +kernel
theorem d_L_joined_3 : decode md_L_joined.2.1 3 = .ok (.iload_n 1, 1) := by decide +kernel
theorem d_L_joined_4 : decode md_L_joined.2.1 4 = .ok (.invokevirtual 66, 3) := by decide +kernel
theorem d_L_joined_7 : decode md_L_joined.2.1 7 = .ok (.ifCond .eq 7, 3) := by decide +kernel
theorem d_L_joined_10 : decode md_L_joined.2.1 10 = .ok (.lconst 1, 1) := by decide +kernel
theorem d_L_joined_11 : decode md_L_joined.2.1 11 = .ok (.goto 4, 3) := by decide +kernel
theorem d_L_joined_14 : decode md_L_joined.2.1 14 = .ok (.lconst 0, 1) := by decide +kernel
theorem d_L_joined_15 : decode md_L_joined.2.1 15 = .ok (.lastore, 1) := by decide +kernel
theorem d_L_joined_16 : decode md_L_joined.2.1 16 = .ok (.goto 6, 3) := by decide +kernel
theorem d_L_joined_19 : decode md_L_joined.2.1 19 = .ok (.astore_n 3, 1) := by decide +kernel
theorem d_L_joined_20 : decode md_L_joined.2.1 20 = .ok (.iconst 1, 1) := by decide +kernel
theorem d_L_joined_21 : decode md_L_joined.2.1 21 = .ok (.ireturn, 1) := by decide +kernel
theorem d_L_joined_22 : decode md_L_joined.2.1 22 = .ok (.iconst 0, 1) := by decide +kernel
theorem d_L_joined_23 : decode md_L_joined.2.1 23 = .ok (.ireturn, 1) := by decide +kernel
theorem d_L_law_0 : decode md_L_law.2.1 0 = .ok (.new 8, 3) := by decide +kernel
theorem d_L_law_3 : decode md_L_law.2.1 3 = .ok (.dup, 1) := by decide +kernel
theorem d_L_law_4 : decode md_L_law.2.1 4 = .ok (.aload_n 0, 1) := by decide +kernel
theorem d_L_law_5 : decode md_L_law.2.1 5 = .ok (.iconst 0, 1) := by decide +kernel
theorem d_L_law_6 : decode md_L_law.2.1 6 = .ok (.invokestatic 70, 3) := by decide +kernel
theorem d_L_law_9 : decode md_L_law.2.1 9 = .ok (.aload_n 0, 1) := by decide +kernel
theorem d_L_law_10 : decode md_L_law.2.1 10 = .ok (.iconst 1, 1) := by decide +kernel
theorem d_L_law_11 : decode md_L_law.2.1 11 = .ok (.invokestatic 70, 3) := by decide +kernel
theorem d_L_law_14 : decode md_L_law.2.1 14 = .ok (.aload_n 0, 1) := by decide +kernel
theorem d_L_law_15 : decode md_L_law.2.1 15 = .ok (.iconst 2, 1) := by decide +kernel
theorem d_L_law_16 : decode md_L_law.2.1 16 = .ok (.invokestatic 70, 3) := by decide +kernel
theorem d_L_law_19 : decode md_L_law.2.1 19 = .ok (.aload_n 0, 1) := by decide +kernel
theorem d_L_law_20 : decode md_L_law.2.1 20 = .ok (.iconst 3, 1) := by decide +kernel
theorem d_L_law_21 : decode md_L_law.2.1 21 = .ok (.invokestatic 70, 3) := by decide +kernel
theorem d_L_law_24 : decode md_L_law.2.1 24 = .ok (.invokespecial 76, 3) := by decide +kernel
theorem d_L_law_27 : decode md_L_law.2.1 27 = .ok (.astore_n 1, 1) := by decide +kernel
theorem d_L_law_28 : decode md_L_law.2.1 28 = .ok (.new 79, 3) := by decide +kernel
theorem d_L_law_31 : decode md_L_law.2.1 31 = .ok (.dup, 1) := by decide +kernel
theorem d_L_law_32 : decode md_L_law.2.1 32 = .ok (.aload_n 0, 1) := by decide +kernel
theorem d_L_law_33 : decode md_L_law.2.1 33 = .ok (.iconst 0, 1) := by decide +kernel
theorem d_L_law_34 : decode md_L_law.2.1 34 = .ok (.invokestatic 70, 3) := by decide +kernel
theorem d_L_law_37 : decode md_L_law.2.1 37 = .ok (.aload_n 0, 1) := by decide +kernel
theorem d_L_law_38 : decode md_L_law.2.1 38 = .ok (.iconst 1, 1) := by decide +kernel
theorem d_L_law_39 : decode md_L_law.2.1 39 = .ok (.invokestatic 70, 3) := by decide +kernel
theorem d_L_law_42 : decode md_L_law.2.1 42 = .ok (.aload_n 0, 1) := by decide +kernel
theorem d_L_law_43 : decode md_L_law.2.1 43 = .ok (.iconst 2, 1) := by decide +kernel
theorem d_L_law_44 : decode md_L_law.2.1 44 = .ok (.invokestatic 70, 3) := by decide +kernel
theorem d_L_law_47 : decode md_L_law.2.1 47 = .ok (.aload_n 0, 1) := by decide +kernel
theorem d_L_law_48 : decode md_L_law.2.1 48 = .ok (.iconst 3, 1) := by decide +kernel
theorem d_L_law_49 : decode md_L_law.2.1 49 = .ok (.invokestatic 70, 3) := by decide +kernel
theorem d_L_law_52 : decode md_L_law.2.1 52 = .ok (.invokespecial 81, 3) := by decide +kernel
theorem d_L_law_55 : decode md_L_law.2.1 55 = .ok (.astore_n 2, 1) := by decide +kernel
theorem d_L_law_56 : decode md_L_law.2.1 56 = .ok (.iconst 1, 1) := by decide +kernel
theorem d_L_law_57 : decode md_L_law.2.1 57 = .ok (.newarray .long, 2) := by decide +kernel
theorem d_L_law_59 : decode md_L_law.2.1 59 = .ok (.astore_n 3, 1) := by decide +kernel
theorem d_L_law_60 : decode md_L_law.2.1 60 = .ok (.iconst 4, 1) := by decide +kernel
theorem d_L_law_61 : decode md_L_law.2.1 61 = .ok (.istore 4, 2) := by decide +kernel
theorem d_L_law_63 : decode md_L_law.2.1 63 = .ok (.iload 4, 2) := by decide +kernel
theorem d_L_law_65 : decode md_L_law.2.1 65 = .ok (.aload_n 0, 1) := by decide +kernel
theorem d_L_law_66 : decode md_L_law.2.1 66 = .ok (.arraylength, 1) := by decide +kernel
theorem d_L_law_67 : decode md_L_law.2.1 67 = .ok (.bipush 7, 2) := by decide +kernel
theorem d_L_law_69 : decode md_L_law.2.1 69 = .ok (.isub, 1) := by decide +kernel
theorem d_L_law_70 : decode md_L_law.2.1 70 = .ok (.if_icmp .gt 1347, 3) := by decide +kernel
theorem d_L_law_73 : decode md_L_law.2.1 73 = .ok (.aload_n 0, 1) := by decide +kernel
theorem d_L_law_74 : decode md_L_law.2.1 74 = .ok (.iload 4, 2) := by decide +kernel
theorem d_L_law_76 : decode md_L_law.2.1 76 = .ok (.iaload, 1) := by decide +kernel
theorem d_L_law_77 : decode md_L_law.2.1 77 = .ok (.bipush 15, 2) := by decide +kernel
theorem d_L_law_79 : decode md_L_law.2.1 79 = .ok (.iand, 1) := by decide +kernel
theorem d_L_law_80 : decode md_L_law.2.1 80 = .ok (.tableswitch 1331 0 13 #[72, 216, 316, 384, 562, 630, 729, 829, 940, 1007, 1074, 1117, 1173, 1268], 72) := by decide +kernel
theorem d_L_law_152 : decode md_L_law.2.1 152 = .ok (.aload_n 1, 1) := by decide +kernel
theorem d_L_law_153 : decode md_L_law.2.1 153 = .ok (.aload_n 0, 1) := by decide +kernel
theorem d_L_law_154 : decode md_L_law.2.1 154 = .ok (.iload 4, 2) := by decide +kernel
theorem d_L_law_156 : decode md_L_law.2.1 156 = .ok (.iconst 1, 1) := by decide +kernel
theorem d_L_law_157 : decode md_L_law.2.1 157 = .ok (.iadd, 1) := by decide +kernel
theorem d_L_law_158 : decode md_L_law.2.1 158 = .ok (.iaload, 1) := by decide +kernel
theorem d_L_law_159 : decode md_L_law.2.1 159 = .ok (.aload_n 0, 1) := by decide +kernel
theorem d_L_law_160 : decode md_L_law.2.1 160 = .ok (.iload 4, 2) := by decide +kernel
theorem d_L_law_162 : decode md_L_law.2.1 162 = .ok (.iconst 2, 1) := by decide +kernel
theorem d_L_law_163 : decode md_L_law.2.1 163 = .ok (.iadd, 1) := by decide +kernel
theorem d_L_law_164 : decode md_L_law.2.1 164 = .ok (.iaload, 1) := by decide +kernel
theorem d_L_law_165 : decode md_L_law.2.1 165 = .ok (.i2l, 1) := by decide +kernel
theorem d_L_law_166 : decode md_L_law.2.1 166 = .ok (.bipush 32, 2) := by decide +kernel
theorem d_L_law_168 : decode md_L_law.2.1 168 = .ok (.lshl, 1) := by decide +kernel
theorem d_L_law_169 : decode md_L_law.2.1 169 = .ok (.aload_n 0, 1) := by decide +kernel
theorem d_L_law_170 : decode md_L_law.2.1 170 = .ok (.iload 4, 2) := by decide +kernel
theorem d_L_law_172 : decode md_L_law.2.1 172 = .ok (.iconst 3, 1) := by decide +kernel
theorem d_L_law_173 : decode md_L_law.2.1 173 = .ok (.iadd, 1) := by decide +kernel
theorem d_L_law_174 : decode md_L_law.2.1 174 = .ok (.iaload, 1) := by decide +kernel
theorem d_L_law_175 : decode md_L_law.2.1 175 = .ok (.i2l, 1) := by decide +kernel
theorem d_L_law_176 : decode md_L_law.2.1 176 = .ok (.ldc2_w 82, 3) := by decide +kernel
theorem d_L_law_179 : decode md_L_law.2.1 179 = .ok (.land, 1) := by decide +kernel
theorem d_L_law_180 : decode md_L_law.2.1 180 = .ok (.lor, 1) := by decide +kernel
theorem d_L_law_181 : decode md_L_law.2.1 181 = .ok (.aload_n 0, 1) := by decide +kernel
theorem d_L_law_182 : decode md_L_law.2.1 182 = .ok (.iload 4, 2) := by decide +kernel
theorem d_L_law_184 : decode md_L_law.2.1 184 = .ok (.iconst 4, 1) := by decide +kernel
theorem d_L_law_185 : decode md_L_law.2.1 185 = .ok (.iadd, 1) := by decide +kernel
theorem d_L_law_186 : decode md_L_law.2.1 186 = .ok (.iaload, 1) := by decide +kernel
theorem d_L_law_187 : decode md_L_law.2.1 187 = .ok (.i2l, 1) := by decide +kernel
theorem d_L_law_188 : decode md_L_law.2.1 188 = .ok (.bipush 32, 2) := by decide +kernel
theorem d_L_law_190 : decode md_L_law.2.1 190 = .ok (.lshl, 1) := by decide +kernel
theorem d_L_law_191 : decode md_L_law.2.1 191 = .ok (.aload_n 0, 1) := by decide +kernel
theorem d_L_law_192 : decode md_L_law.2.1 192 = .ok (.iload 4, 2) := by decide +kernel
theorem d_L_law_194 : decode md_L_law.2.1 194 = .ok (.iconst 5, 1) := by decide +kernel
theorem d_L_law_195 : decode md_L_law.2.1 195 = .ok (.iadd, 1) := by decide +kernel
theorem d_L_law_196 : decode md_L_law.2.1 196 = .ok (.iaload, 1) := by decide +kernel
theorem d_L_law_197 : decode md_L_law.2.1 197 = .ok (.i2l, 1) := by decide +kernel
theorem d_L_law_198 : decode md_L_law.2.1 198 = .ok (.ldc2_w 82, 3) := by decide +kernel
theorem d_L_law_201 : decode md_L_law.2.1 201 = .ok (.land, 1) := by decide +kernel
theorem d_L_law_202 : decode md_L_law.2.1 202 = .ok (.lor, 1) := by decide +kernel
theorem d_L_law_203 : decode md_L_law.2.1 203 = .ok (.aload_n 3, 1) := by decide +kernel
theorem d_L_law_204 : decode md_L_law.2.1 204 = .ok (.invokestatic 84, 3) := by decide +kernel
theorem d_L_law_207 : decode md_L_law.2.1 207 = .ok (.istore 5, 2) := by decide +kernel
theorem d_L_law_209 : decode md_L_law.2.1 209 = .ok (.aload_n 2, 1) := by decide +kernel
theorem d_L_law_210 : decode md_L_law.2.1 210 = .ok (.aload_n 0, 1) := by decide +kernel
theorem d_L_law_211 : decode md_L_law.2.1 211 = .ok (.iload 4, 2) := by decide +kernel
theorem d_L_law_213 : decode md_L_law.2.1 213 = .ok (.iconst 1, 1) := by decide +kernel
theorem d_L_law_214 : decode md_L_law.2.1 214 = .ok (.iadd, 1) := by decide +kernel
theorem d_L_law_215 : decode md_L_law.2.1 215 = .ok (.iaload, 1) := by decide +kernel
theorem d_L_law_216 : decode md_L_law.2.1 216 = .ok (.aload_n 0, 1) := by decide +kernel
theorem d_L_law_217 : decode md_L_law.2.1 217 = .ok (.iload 4, 2) := by decide +kernel
theorem d_L_law_219 : decode md_L_law.2.1 219 = .ok (.iconst 2, 1) := by decide +kernel
theorem d_L_law_220 : decode md_L_law.2.1 220 = .ok (.iadd, 1) := by decide +kernel
theorem d_L_law_221 : decode md_L_law.2.1 221 = .ok (.iaload, 1) := by decide +kernel
theorem d_L_law_222 : decode md_L_law.2.1 222 = .ok (.i2l, 1) := by decide +kernel
theorem d_L_law_223 : decode md_L_law.2.1 223 = .ok (.bipush 32, 2) := by decide +kernel
theorem d_L_law_225 : decode md_L_law.2.1 225 = .ok (.lshl, 1) := by decide +kernel
theorem d_L_law_226 : decode md_L_law.2.1 226 = .ok (.aload_n 0, 1) := by decide +kernel
theorem d_L_law_227 : decode md_L_law.2.1 227 = .ok (.iload 4, 2) := by decide +kernel
theorem d_L_law_229 : decode md_L_law.2.1 229 = .ok (.iconst 3, 1) := by decide +kernel
theorem d_L_law_230 : decode md_L_law.2.1 230 = .ok (.iadd, 1) := by decide +kernel
theorem d_L_law_231 : decode md_L_law.2.1 231 = .ok (.iaload, 1) := by decide +kernel
theorem d_L_law_232 : decode md_L_law.2.1 232 = .ok (.i2l, 1) := by decide +kernel
theorem d_L_law_233 : decode md_L_law.2.1 233 = .ok (.ldc2_w 82, 3) := by decide +kernel
theorem d_L_law_236 : decode md_L_law.2.1 236 = .ok (.land, 1) := by decide +kernel
theorem d_L_law_237 : decode md_L_law.2.1 237 = .ok (.lor, 1) := by decide +kernel
theorem d_L_law_238 : decode md_L_law.2.1 238 = .ok (.aload_n 0, 1) := by decide +kernel
theorem d_L_law_239 : decode md_L_law.2.1 239 = .ok (.iload 4, 2) := by decide +kernel
theorem d_L_law_241 : decode md_L_law.2.1 241 = .ok (.iconst 4, 1) := by decide +kernel
theorem d_L_law_242 : decode md_L_law.2.1 242 = .ok (.iadd, 1) := by decide +kernel
theorem d_L_law_243 : decode md_L_law.2.1 243 = .ok (.iaload, 1) := by decide +kernel
theorem d_L_law_244 : decode md_L_law.2.1 244 = .ok (.i2l, 1) := by decide +kernel
theorem d_L_law_245 : decode md_L_law.2.1 245 = .ok (.bipush 32, 2) := by decide +kernel
theorem d_L_law_247 : decode md_L_law.2.1 247 = .ok (.lshl, 1) := by decide +kernel
theorem d_L_law_248 : decode md_L_law.2.1 248 = .ok (.aload_n 0, 1) := by decide +kernel
theorem d_L_law_249 : decode md_L_law.2.1 249 = .ok (.iload 4, 2) := by decide +kernel
theorem d_L_law_251 : decode md_L_law.2.1 251 = .ok (.iconst 5, 1) := by decide +kernel
theorem d_L_law_252 : decode md_L_law.2.1 252 = .ok (.iadd, 1) := by decide +kernel
theorem d_L_law_253 : decode md_L_law.2.1 253 = .ok (.iaload, 1) := by decide +kernel
theorem d_L_law_254 : decode md_L_law.2.1 254 = .ok (.i2l, 1) := by decide +kernel
theorem d_L_law_255 : decode md_L_law.2.1 255 = .ok (.ldc2_w 82, 3) := by decide +kernel
theorem d_L_law_258 : decode md_L_law.2.1 258 = .ok (.land, 1) := by decide +kernel
theorem d_L_law_259 : decode md_L_law.2.1 259 = .ok (.lor, 1) := by decide +kernel
theorem d_L_law_260 : decode md_L_law.2.1 260 = .ok (.invokevirtual 87, 3) := by decide +kernel
theorem d_L_law_263 : decode md_L_law.2.1 263 = .ok (.istore 6, 2) := by decide +kernel
theorem d_L_law_265 : decode md_L_law.2.1 265 = .ok (.aload_n 2, 1) := by decide +kernel
theorem d_L_law_266 : decode md_L_law.2.1 266 = .ok (.invokevirtual 88, 3) := by decide +kernel
theorem d_L_law_269 : decode md_L_law.2.1 269 = .ok (.iload 5, 2) := by decide +kernel
theorem d_L_law_271 : decode md_L_law.2.1 271 = .ok (.if_icmp .eq 5, 3) := by decide +kernel
theorem d_L_law_274 : decode md_L_law.2.1 274 = .ok (.iconst 0, 1) := by decide +kernel
theorem d_L_law_275 : decode md_L_law.2.1 275 = .ok (.ireturn, 1) := by decide +kernel
theorem d_L_law_276 : decode md_L_law.2.1 276 = .ok (.iload 5, 2) := by decide +kernel
theorem d_L_law_278 : decode md_L_law.2.1 278 = .ok (.ifCond .ne 15, 3) := by decide +kernel
theorem d_L_law_281 : decode md_L_law.2.1 281 = .ok (.aload_n 3, 1) := by decide +kernel
theorem d_L_law_282 : decode md_L_law.2.1 282 = .ok (.iconst 0, 1) := by decide +kernel
theorem d_L_law_283 : decode md_L_law.2.1 283 = .ok (.laload, 1) := by decide +kernel
theorem d_L_law_284 : decode md_L_law.2.1 284 = .ok (.iload 6, 2) := by decide +kernel
theorem d_L_law_286 : decode md_L_law.2.1 286 = .ok (.i2l, 1) := by decide +kernel
theorem d_L_law_287 : decode md_L_law.2.1 287 = .ok (.lcmp, 1) := by decide +kernel
theorem d_L_law_288 : decode md_L_law.2.1 288 = .ok (.ifCond .eq 5, 3) := by decide +kernel
theorem d_L_law_291 : decode md_L_law.2.1 291 = .ok (.iconst 0, 1) := by decide +kernel
theorem d_L_law_292 : decode md_L_law.2.1 292 = .ok (.ireturn, 1) := by decide +kernel
theorem d_L_law_293 : decode md_L_law.2.1 293 = .ok (.goto 1118, 3) := by decide +kernel
theorem d_L_law_296 : decode md_L_law.2.1 296 = .ok (.aload_n 1, 1) := by decide +kernel
theorem d_L_law_297 : decode md_L_law.2.1 297 = .ok (.aload_n 0, 1) := by decide +kernel
theorem d_L_law_298 : decode md_L_law.2.1 298 = .ok (.iload 4, 2) := by decide +kernel
theorem d_L_law_300 : decode md_L_law.2.1 300 = .ok (.iconst 1, 1) := by decide +kernel
theorem d_L_law_301 : decode md_L_law.2.1 301 = .ok (.iadd, 1) := by decide +kernel
theorem d_L_law_302 : decode md_L_law.2.1 302 = .ok (.iaload, 1) := by decide +kernel
theorem d_L_law_303 : decode md_L_law.2.1 303 = .ok (.aload_n 0, 1) := by decide +kernel
theorem d_L_law_304 : decode md_L_law.2.1 304 = .ok (.iload 4, 2) := by decide +kernel
theorem d_L_law_306 : decode md_L_law.2.1 306 = .ok (.iconst 2, 1) := by decide +kernel
theorem d_L_law_307 : decode md_L_law.2.1 307 = .ok (.iadd, 1) := by decide +kernel
theorem d_L_law_308 : decode md_L_law.2.1 308 = .ok (.iaload, 1) := by decide +kernel
theorem d_L_law_309 : decode md_L_law.2.1 309 = .ok (.i2l, 1) := by decide +kernel
theorem d_L_law_310 : decode md_L_law.2.1 310 = .ok (.bipush 32, 2) := by decide +kernel
theorem d_L_law_312 : decode md_L_law.2.1 312 = .ok (.lshl, 1) := by decide +kernel
theorem d_L_law_313 : decode md_L_law.2.1 313 = .ok (.aload_n 0, 1) := by decide +kernel
theorem d_L_law_314 : decode md_L_law.2.1 314 = .ok (.iload 4, 2) := by decide +kernel
theorem d_L_law_316 : decode md_L_law.2.1 316 = .ok (.iconst 3, 1) := by decide +kernel
theorem d_L_law_317 : decode md_L_law.2.1 317 = .ok (.iadd, 1) := by decide +kernel
theorem d_L_law_318 : decode md_L_law.2.1 318 = .ok (.iaload, 1) := by decide +kernel
theorem d_L_law_319 : decode md_L_law.2.1 319 = .ok (.i2l, 1) := by decide +kernel
theorem d_L_law_320 : decode md_L_law.2.1 320 = .ok (.ldc2_w 82, 3) := by decide +kernel
theorem d_L_law_323 : decode md_L_law.2.1 323 = .ok (.land, 1) := by decide +kernel
theorem d_L_law_324 : decode md_L_law.2.1 324 = .ok (.lor, 1) := by decide +kernel
theorem d_L_law_325 : decode md_L_law.2.1 325 = .ok (.aload_n 3, 1) := by decide +kernel
theorem d_L_law_326 : decode md_L_law.2.1 326 = .ok (.invokestatic 92, 3) := by decide +kernel
theorem d_L_law_329 : decode md_L_law.2.1 329 = .ok (.istore 5, 2) := by decide +kernel
theorem d_L_law_331 : decode md_L_law.2.1 331 = .ok (.aload_n 2, 1) := by decide +kernel
theorem d_L_law_332 : decode md_L_law.2.1 332 = .ok (.aload_n 0, 1) := by decide +kernel
theorem d_L_law_333 : decode md_L_law.2.1 333 = .ok (.iload 4, 2) := by decide +kernel
theorem d_L_law_335 : decode md_L_law.2.1 335 = .ok (.iconst 1, 1) := by decide +kernel
theorem d_L_law_336 : decode md_L_law.2.1 336 = .ok (.iadd, 1) := by decide +kernel
theorem d_L_law_337 : decode md_L_law.2.1 337 = .ok (.iaload, 1) := by decide +kernel
theorem d_L_law_338 : decode md_L_law.2.1 338 = .ok (.aload_n 0, 1) := by decide +kernel
theorem d_L_law_339 : decode md_L_law.2.1 339 = .ok (.iload 4, 2) := by decide +kernel
theorem d_L_law_341 : decode md_L_law.2.1 341 = .ok (.iconst 2, 1) := by decide +kernel
theorem d_L_law_342 : decode md_L_law.2.1 342 = .ok (.iadd, 1) := by decide +kernel
theorem d_L_law_343 : decode md_L_law.2.1 343 = .ok (.iaload, 1) := by decide +kernel
theorem d_L_law_344 : decode md_L_law.2.1 344 = .ok (.i2l, 1) := by decide +kernel
theorem d_L_law_345 : decode md_L_law.2.1 345 = .ok (.bipush 32, 2) := by decide +kernel
