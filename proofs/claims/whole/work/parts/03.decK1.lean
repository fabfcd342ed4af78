theorem d_S_placeOf_26 : decode md_S_placeOf.2.1 26 = .ok (.goto (-24), 3) := by decide +kernel
theorem d_S_placeOf_29 : decode md_S_placeOf.2.1 29 = .ok (.iconst (-1), 1) := by decide +kernel
theorem d_S_placeOf_30 : decode md_S_placeOf.2.1 30 = .ok (.ireturn, 1) := by decide +kernel
theorem d_K_codeOf_0 : decode md_K_codeOf.2.1 0 = .ok (.aload_n 0, 1) := by decide +kernel
theorem d_K_codeOf_1 : decode md_K_codeOf.2.1 1 = .ok (.lload_n 3, 1) := by decide +kernel
theorem d_K_codeOf_2 : decode md_K_codeOf.2.1 2 = .ok (.invokevirtual 168, 3) := by decide +kernel
theorem d_K_codeOf_5 : decode md_K_codeOf.2.1 5 = .ok (.ifCond .eq 12, 3) := by decide +kernel
theorem d_K_codeOf_8 : decode md_K_codeOf.2.1 8 = .ok (.aload_n 0, 1) := by decide +kernel
theorem d_K_codeOf_9 : decode md_K_codeOf.2.1 9 = .ok (.getfield 38, 3) := by decide +kernel
theorem d_K_codeOf_12 : decode md_K_codeOf.2.1 12 = .ok (.ifCond .ne 5, 3) := by decide +kernel
theorem d_K_codeOf_15 : decode md_K_codeOf.2.1 15 = .ok (.iconst 1, 1) := by decide +kernel
theorem d_K_codeOf_16 : decode md_K_codeOf.2.1 16 = .ok (.ireturn, 1) := by decide +kernel
theorem d_K_codeOf_17 : decode md_K_codeOf.2.1 17 = .ok (.aload_n 0, 1) := by decide +kernel
theorem d_K_codeOf_18 : decode md_K_codeOf.2.1 18 = .ok (.lload_n 3, 1) := by decide +kernel
theorem d_K_codeOf_19 : decode md_K_codeOf.2.1 19 = .ok (.invokevirtual 168, 3) := by decide +kernel
theorem d_K_codeOf_22 : decode md_K_codeOf.2.1 22 = .ok (.ifCond .eq 13, 3) := by decide +kernel
theorem d_K_codeOf_25 : decode md_K_codeOf.2.1 25 = .ok (.aload_n 0, 1) := by decide +kernel
theorem d_K_codeOf_26 : decode md_K_codeOf.2.1 26 = .ok (.getfield 38, 3) := by decide +kernel
theorem d_K_codeOf_29 : decode md_K_codeOf.2.1 29 = .ok (.iconst 1, 1) := by decide +kernel
theorem d_K_codeOf_30 : decode md_K_codeOf.2.1 30 = .ok (.if_icmp .ne 5, 3) := by decide +kernel
theorem d_K_codeOf_33 : decode md_K_codeOf.2.1 33 = .ok (.iconst 2, 1) := by decide +kernel
theorem d_K_codeOf_34 : decode md_K_codeOf.2.1 34 = .ok (.ireturn, 1) := by decide +kernel
theorem d_K_codeOf_35 : decode md_K_codeOf.2.1 35 = .ok (.aload_n 0, 1) := by decide +kernel
theorem d_K_codeOf_36 : decode md_K_codeOf.2.1 36 = .ok (.lload_n 1, 1) := by decide +kernel
theorem d_K_codeOf_37 : decode md_K_codeOf.2.1 37 = .ok (.invokevirtual 190, 3) := by decide +kernel
theorem d_K_codeOf_40 : decode md_K_codeOf.2.1 40 = .ok (.istore 7, 2) := by decide +kernel
theorem d_K_codeOf_42 : decode md_K_codeOf.2.1 42 = .ok (.iload 7, 2) := by decide +kernel
theorem d_K_codeOf_44 : decode md_K_codeOf.2.1 44 = .ok (.ifCond .lt 30, 3) := by decide +kernel
theorem d_K_codeOf_47 : decode md_K_codeOf.2.1 47 = .ok (.aload_n 0, 1) := by decide +kernel
theorem d_K_codeOf_48 : decode md_K_codeOf.2.1 48 = .ok (.getfield 16, 3) := by decide +kernel
theorem d_K_codeOf_51 : decode md_K_codeOf.2.1 51 = .ok (.iload 7, 2) := by decide +kernel
theorem d_K_codeOf_53 : decode md_K_codeOf.2.1 53 = .ok (.invokevirtual 125, 3) := by decide +kernel
theorem d_K_codeOf_56 : decode md_K_codeOf.2.1 56 = .ok (.checkcast 196, 3) := by decide +kernel
theorem d_K_codeOf_59 : decode md_K_codeOf.2.1 59 = .ok (.lload_n 3, 1) := by decide +kernel
theorem d_K_codeOf_60 : decode md_K_codeOf.2.1 60 = .ok (.lload 5, 2) := by decide +kernel
theorem d_K_codeOf_62 : decode md_K_codeOf.2.1 62 = .ok (.aload_n 0, 1) := by decide +kernel
theorem d_K_codeOf_63 : decode md_K_codeOf.2.1 63 = .ok (.getfield 79, 3) := by decide +kernel
theorem d_K_codeOf_66 : decode md_K_codeOf.2.1 66 = .ok (.invokevirtual 271, 3) := by decide +kernel
theorem d_K_codeOf_69 : decode md_K_codeOf.2.1 69 = .ok (.ifCond .eq 5, 3) := by decide +kernel
theorem d_K_codeOf_72 : decode md_K_codeOf.2.1 72 = .ok (.iconst 3, 1) := by decide +kernel
theorem d_K_codeOf_73 : decode md_K_codeOf.2.1 73 = .ok (.ireturn, 1) := by decide +kernel
theorem d_K_codeOf_74 : decode md_K_codeOf.2.1 74 = .ok (.aload_n 0, 1) := by decide +kernel
theorem d_K_codeOf_75 : decode md_K_codeOf.2.1 75 = .ok (.lload 5, 2) := by decide +kernel
theorem d_K_codeOf_77 : decode md_K_codeOf.2.1 77 = .ok (.invokevirtual 275, 3) := by decide +kernel
theorem d_K_codeOf_80 : decode md_K_codeOf.2.1 80 = .ok (.iconst (-1), 1) := by decide +kernel
theorem d_K_codeOf_81 : decode md_K_codeOf.2.1 81 = .ok (.if_icmp .ne 5, 3) := by decide +kernel
theorem d_K_codeOf_84 : decode md_K_codeOf.2.1 84 = .ok (.iconst 0, 1) := by decide +kernel
theorem d_K_codeOf_85 : decode md_K_codeOf.2.1 85 = .ok (.ireturn, 1) := by decide +kernel
theorem d_K_codeOf_86 : decode md_K_codeOf.2.1 86 = .ok (.aload_n 0, 1) := by decide +kernel
theorem d_K_codeOf_87 : decode md_K_codeOf.2.1 87 = .ok (.getfield 42, 3) := by decide +kernel
theorem d_K_codeOf_90 : decode md_K_codeOf.2.1 90 = .ok (.ifCond .ne 5, 3) := by decide +kernel
theorem d_K_codeOf_93 : decode md_K_codeOf.2.1 93 = .ok (.iconst 4, 1) := by decide +kernel
theorem d_K_codeOf_94 : decode md_K_codeOf.2.1 94 = .ok (.ireturn, 1) := by decide +kernel
theorem d_K_codeOf_95 : decode md_K_codeOf.2.1 95 = .ok (.aload_n 0, 1) := by decide +kernel
theorem d_K_codeOf_96 : decode md_K_codeOf.2.1 96 = .ok (.getfield 42, 3) := by decide +kernel
theorem d_K_codeOf_99 : decode md_K_codeOf.2.1 99 = .ok (.iconst 1, 1) := by decide +kernel
theorem d_K_codeOf_100 : decode md_K_codeOf.2.1 100 = .ok (.if_icmp .ne 7, 3) := by decide +kernel
theorem d_K_codeOf_103 : decode md_K_codeOf.2.1 103 = .ok (.iconst 5, 1) := by decide +kernel
theorem d_K_codeOf_104 : decode md_K_codeOf.2.1 104 = .ok (.goto 5, 3) := by decide +kernel
theorem d_K_codeOf_107 : decode md_K_codeOf.2.1 107 = .ok (.bipush 6, 2) := by decide +kernel
theorem d_K_codeOf_109 : decode md_K_codeOf.2.1 109 = .ok (.ireturn, 1) := by decide +kernel
theorem d_K_isLate_0 : decode md_K_isLate.2.1 0 = .ok (.aload_n 0, 1) := by decide +kernel
theorem d_K_isLate_1 : decode md_K_isLate.2.1 1 = .ok (.invokevirtual 235, 3) := by decide +kernel
theorem d_K_isLate_4 : decode md_K_isLate.2.1 4 = .ok (.ifCond .eq 16, 3) := by decide +kernel
theorem d_K_isLate_7 : decode md_K_isLate.2.1 7 = .ok (.lload_n 1, 1) := by decide +kernel
theorem d_K_isLate_8 : decode md_K_isLate.2.1 8 = .ok (.aload_n 0, 1) := by decide +kernel
theorem d_K_isLate_9 : decode md_K_isLate.2.1 9 = .ok (.invokevirtual 240, 3) := by decide +kernel
theorem d_K_isLate_12 : decode md_K_isLate.2.1 12 = .ok (.lcmp, 1) := by decide +kernel
theorem d_K_isLate_13 : decode md_K_isLate.2.1 13 = .ok (.ifCond .ge 7, 3) := by decide +kernel
theorem d_K_isLate_16 : decode md_K_isLate.2.1 16 = .ok (.iconst 1, 1) := by decide +kernel
theorem d_K_isLate_17 : decode md_K_isLate.2.1 17 = .ok (.goto 4, 3) := by decide +kernel
theorem d_K_isLate_20 : decode md_K_isLate.2.1 20 = .ok (.iconst 0, 1) := by decide +kernel
theorem d_K_isLate_21 : decode md_K_isLate.2.1 21 = .ok (.ireturn, 1) := by decide +kernel
theorem d_K_hasWatermark_0 : decode md_K_hasWatermark.2.1 0 = .ok (.aload_n 0, 1) := by decide +kernel
theorem d_K_hasWatermark_1 : decode md_K_hasWatermark.2.1 1 = .ok (.getfield 47, 3) := by decide +kernel
theorem d_K_hasWatermark_4 : decode md_K_hasWatermark.2.1 4 = .ok (.ldc2_w 45, 3) := by decide +kernel
theorem d_K_hasWatermark_7 : decode md_K_hasWatermark.2.1 7 = .ok (.lcmp, 1) := by decide +kernel
theorem d_K_hasWatermark_8 : decode md_K_hasWatermark.2.1 8 = .ok (.ifCond .eq 7, 3) := by decide +kernel
theorem d_K_hasWatermark_11 : decode md_K_hasWatermark.2.1 11 = .ok (.iconst 1, 1) := by decide +kernel
theorem d_K_hasWatermark_12 : decode md_K_hasWatermark.2.1 12 = .ok (.goto 4, 3) := by decide +kernel
theorem d_K_hasWatermark_15 : decode md_K_hasWatermark.2.1 15 = .ok (.iconst 0, 1) := by decide +kernel
theorem d_K_hasWatermark_16 : decode md_K_hasWatermark.2.1 16 = .ok (.ireturn, 1) := by decide +kernel
theorem d_K_watermarkTime_0 : decode md_K_watermarkTime.2.1 0 = .ok (.aload_n 0, 1) := by decide +kernel
theorem d_K_watermarkTime_1 : decode md_K_watermarkTime.2.1 1 = .ok (.getfield 47, 3) := by decide +kernel
theorem d_K_watermarkTime_4 : decode md_K_watermarkTime.2.1 4 = .ok (.aload_n 0, 1) := by decide +kernel
theorem d_K_watermarkTime_5 : decode md_K_watermarkTime.2.1 5 = .ok (.getfield 73, 3) := by decide +kernel
theorem d_K_watermarkTime_8 : decode md_K_watermarkTime.2.1 8 = .ok (.i2l, 1) := by decide +kernel
theorem d_K_watermarkTime_9 : decode md_K_watermarkTime.2.1 9 = .ok (.lsub, 1) := by decide +kernel
theorem d_K_watermarkTime_10 : decode md_K_watermarkTime.2.1 10 = .ok (.lreturn, 1) := by decide +kernel
theorem d_K_placeOfKey_0 : decode md_K_placeOfKey.2.1 0 = .ok (.iconst 0, 1) := by decide +kernel
theorem d_K_placeOfKey_1 : decode md_K_placeOfKey.2.1 1 = .ok (.istore_n 3, 1) := by decide +kernel
theorem d_K_placeOfKey_2 : decode md_K_placeOfKey.2.1 2 = .ok (.iload_n 3, 1) := by decide +kernel
theorem d_K_placeOfKey_3 : decode md_K_placeOfKey.2.1 3 = .ok (.aload_n 0, 1) := by decide +kernel
theorem d_K_placeOfKey_4 : decode md_K_placeOfKey.2.1 4 = .ok (.getfield 16, 3) := by decide +kernel
theorem d_K_placeOfKey_7 : decode md_K_placeOfKey.2.1 7 = .ok (.invokevirtual 92, 3) := by decide +kernel
theorem d_K_placeOfKey_10 : decode md_K_placeOfKey.2.1 10 = .ok (.if_icmp .ge 30, 3) := by decide +kernel
theorem d_K_placeOfKey_13 : decode md_K_placeOfKey.2.1 13 = .ok (.aload_n 0, 1) := by decide +kernel
theorem d_K_placeOfKey_14 : decode md_K_placeOfKey.2.1 14 = .ok (.getfield 16, 3) := by decide +kernel
theorem d_K_placeOfKey_17 : decode md_K_placeOfKey.2.1 17 = .ok (.iload_n 3, 1) := by decide +kernel
theorem d_K_placeOfKey_18 : decode md_K_placeOfKey.2.1 18 = .ok (.invokevirtual 125, 3) := by decide +kernel
theorem d_K_placeOfKey_21 : decode md_K_placeOfKey.2.1 21 = .ok (.checkcast 196, 3) := by decide +kernel
theorem d_K_placeOfKey_24 : decode md_K_placeOfKey.2.1 24 = .ok (.getfield 268, 3) := by decide +kernel
theorem d_K_placeOfKey_27 : decode md_K_placeOfKey.2.1 27 = .ok (.lload_n 1, 1) := by decide +kernel
theorem d_K_placeOfKey_28 : decode md_K_placeOfKey.2.1 28 = .ok (.lcmp, 1) := by decide +kernel
theorem d_K_placeOfKey_29 : decode md_K_placeOfKey.2.1 29 = .ok (.ifCond .ne 5, 3) := by decide +kernel
theorem d_K_placeOfKey_32 : decode md_K_placeOfKey.2.1 32 = .ok (.iload_n 3, 1) := by decide +kernel
theorem d_K_placeOfKey_33 : decode md_K_placeOfKey.2.1 33 = .ok (.ireturn, 1) := by decide +kernel
theorem d_K_placeOfKey_34 : decode md_K_placeOfKey.2.1 34 = .ok (.iinc 3 1, 3) := by decide +kernel
theorem d_K_placeOfKey_37 : decode md_K_placeOfKey.2.1 37 = .ok (.goto (-35), 3) := by decide +kernel
theorem d_K_placeOfKey_40 : decode md_K_placeOfKey.2.1 40 = .ok (.iconst (-1), 1) := by decide +kernel
theorem d_K_placeOfKey_41 : decode md_K_placeOfKey.2.1 41 = .ok (.ireturn, 1) := by decide +kernel
theorem d_R_hasNear_0 : decode md_R_hasNear.2.1 0 = .ok (.iconst 0, 1) := by decide +kernel
theorem d_R_hasNear_1 : decode md_R_hasNear.2.1 1 = .ok (.istore 6, 2) := by decide +kernel
theorem d_R_hasNear_3 : decode md_R_hasNear.2.1 3 = .ok (.iload 6, 2) := by decide +kernel
theorem d_R_hasNear_5 : decode md_R_hasNear.2.1 5 = .ok (.aload_n 0, 1) := by decide +kernel
theorem d_R_hasNear_6 : decode md_R_hasNear.2.1 6 = .ok (.getfield 18, 3) := by decide +kernel
theorem d_R_hasNear_9 : decode md_R_hasNear.2.1 9 = .ok (.if_icmp .ge 42, 3) := by decide +kernel
theorem d_R_hasNear_12 : decode md_R_hasNear.2.1 12 = .ok (.aload_n 0, 1) := by decide +kernel
theorem d_R_hasNear_13 : decode md_R_hasNear.2.1 13 = .ok (.getfield 15, 3) := by decide +kernel
theorem d_R_hasNear_16 : decode md_R_hasNear.2.1 16 = .ok (.iload 6, 2) := by decide +kernel
theorem d_R_hasNear_18 : decode md_R_hasNear.2.1 18 = .ok (.laload, 1) := by decide +kernel
theorem d_R_hasNear_19 : decode md_R_hasNear.2.1 19 = .ok (.lload_n 3, 1) := by decide +kernel
theorem d_R_hasNear_20 : decode md_R_hasNear.2.1 20 = .ok (.lcmp, 1) := by decide +kernel
theorem d_R_hasNear_21 : decode md_R_hasNear.2.1 21 = .ok (.ifCond .ne 24, 3) := by decide +kernel
theorem d_R_hasNear_24 : decode md_R_hasNear.2.1 24 = .ok (.aload_n 0, 1) := by decide +kernel
theorem d_R_hasNear_25 : decode md_R_hasNear.2.1 25 = .ok (.getfield 9, 3) := by decide +kernel
theorem d_R_hasNear_28 : decode md_R_hasNear.2.1 28 = .ok (.iload 6, 2) := by decide +kernel
theorem d_R_hasNear_30 : decode md_R_hasNear.2.1 30 = .ok (.laload, 1) := by decide +kernel
theorem d_R_hasNear_31 : decode md_R_hasNear.2.1 31 = .ok (.lload_n 1, 1) := by decide +kernel
theorem d_R_hasNear_32 : decode md_R_hasNear.2.1 32 = .ok (.lsub, 1) := by decide +kernel
theorem d_R_hasNear_33 : decode md_R_hasNear.2.1 33 = .ok (.invokestatic 36, 3) := by decide +kernel
theorem d_R_hasNear_36 : decode md_R_hasNear.2.1 36 = .ok (.iload 5, 2) := by decide +kernel
theorem d_R_hasNear_38 : decode md_R_hasNear.2.1 38 = .ok (.i2l, 1) := by decide +kernel
theorem d_R_hasNear_39 : decode md_R_hasNear.2.1 39 = .ok (.lcmp, 1) := by decide +kernel
theorem d_R_hasNear_40 : decode md_R_hasNear.2.1 40 = .ok (.ifCond .ge 5, 3) := by decide +kernel
theorem d_R_hasNear_43 : decode md_R_hasNear.2.1 43 = .ok (.iconst 1, 1) := by decide +kernel
theorem d_R_hasNear_44 : decode md_R_hasNear.2.1 44 = .ok (.ireturn, 1) := by decide +kernel
theorem d_R_hasNear_45 : decode md_R_hasNear.2.1 45 = .ok (.iinc 6 1, 3) := by decide +kernel
theorem d_R_hasNear_48 : decode md_R_hasNear.2.1 48 = .ok (.goto (-45), 3) := by decide +kernel
theorem d_R_hasNear_51 : decode md_R_hasNear.2.1 51 = .ok (.iconst 0, 1) := by decide +kernel
theorem d_R_hasNear_52 : decode md_R_hasNear.2.1 52 = .ok (.ireturn, 1) := by decide +kernel
theorem d_K_causeOf_0 : decode md_K_causeOf.2.1 0 = .ok (.iconst 0, 1) := by decide +kernel
theorem d_K_causeOf_1 : decode md_K_causeOf.2.1 1 = .ok (.istore_n 3, 1) := by decide +kernel
theorem d_K_causeOf_2 : decode md_K_causeOf.2.1 2 = .ok (.iload_n 3, 1) := by decide +kernel
theorem d_K_causeOf_3 : decode md_K_causeOf.2.1 3 = .ok (.aload_n 0, 1) := by decide +kernel
theorem d_K_causeOf_4 : decode md_K_causeOf.2.1 4 = .ok (.getfield 10, 3) := by decide +kernel
theorem d_K_causeOf_7 : decode md_K_causeOf.2.1 7 = .ok (.invokevirtual 92, 3) := by decide +kernel
theorem d_K_causeOf_10 : decode md_K_causeOf.2.1 10 = .ok (.if_icmp .ge 29, 3) := by decide +kernel
theorem d_K_causeOf_13 : decode md_K_causeOf.2.1 13 = .ok (.aload_n 0, 1) := by decide +kernel
theorem d_K_causeOf_14 : decode md_K_causeOf.2.1 14 = .ok (.getfield 10, 3) := by decide +kernel
theorem d_K_causeOf_17 : decode md_K_causeOf.2.1 17 = .ok (.iload_n 3, 1) := by decide +kernel
theorem d_K_causeOf_18 : decode md_K_causeOf.2.1 18 = .ok (.invokevirtual 125, 3) := by decide +kernel
theorem d_K_causeOf_21 : decode md_K_causeOf.2.1 21 = .ok (.checkcast 107, 3) := by decide +kernel
theorem d_K_causeOf_24 : decode md_K_causeOf.2.1 24 = .ok (.lload_n 1, 1) := by decide +kernel
theorem d_K_causeOf_25 : decode md_K_causeOf.2.1 25 = .ok (.invokevirtual 134, 3) := by decide +kernel
theorem d_K_causeOf_28 : decode md_K_causeOf.2.1 28 = .ok (.ifCond .eq 5, 3) := by decide +kernel
theorem d_K_causeOf_31 : decode md_K_causeOf.2.1 31 = .ok (.iload_n 3, 1) := by decide +kernel
theorem d_K_causeOf_32 : decode md_K_causeOf.2.1 32 = .ok (.ireturn, 1) := by decide +kernel
theorem d_K_causeOf_33 : decode md_K_causeOf.2.1 33 = .ok (.iinc 3 1, 3) := by decide +kernel
theorem d_K_causeOf_36 : decode md_K_causeOf.2.1 36 = .ok (.goto (-34), 3) := by decide +kernel
theorem d_K_causeOf_39 : decode md_K_causeOf.2.1 39 = .ok (.iconst (-1), 1) := by decide +kernel
theorem d_K_causeOf_40 : decode md_K_causeOf.2.1 40 = .ok (.ireturn, 1) := by decide +kernel
theorem d_K_hasRoomFor_0 : decode md_K_hasRoomFor.2.1 0 = .ok (.aload_n 0, 1) := by decide +kernel
theorem d_K_hasRoomFor_1 : decode md_K_hasRoomFor.2.1 1 = .ok (.lload_n 1, 1) := by decide +kernel
theorem d_K_hasRoomFor_2 : decode md_K_hasRoomFor.2.1 2 = .ok (.invokevirtual 190, 3) := by decide +kernel
theorem d_K_hasRoomFor_5 : decode md_K_hasRoomFor.2.1 5 = .ok (.istore_n 3, 1) := by decide +kernel
theorem d_K_hasRoomFor_6 : decode md_K_hasRoomFor.2.1 6 = .ok (.iload_n 3, 1) := by decide +kernel
theorem d_K_hasRoomFor_7 : decode md_K_hasRoomFor.2.1 7 = .ok (.ifCond .ge 23, 3) := by decide +kernel
theorem d_K_hasRoomFor_10 : decode md_K_hasRoomFor.2.1 10 = .ok (.aload_n 0, 1) := by decide +kernel
theorem d_K_hasRoomFor_11 : decode md_K_hasRoomFor.2.1 11 = .ok (.getfield 16, 3) := by decide +kernel
theorem d_K_hasRoomFor_14 : decode md_K_hasRoomFor.2.1 14 = .ok (.invokevirtual 92, 3) := by decide +kernel
theorem d_K_hasRoomFor_17 : decode md_K_hasRoomFor.2.1 17 = .ok (.bipush 30, 2) := by decide +kernel
theorem d_K_hasRoomFor_19 : decode md_K_hasRoomFor.2.1 19 = .ok (.if_icmp .ge 7, 3) := by decide +kernel
theorem d_K_hasRoomFor_22 : decode md_K_hasRoomFor.2.1 22 = .ok (.iconst 1, 1) := by decide +kernel
theorem d_K_hasRoomFor_23 : decode md_K_hasRoomFor.2.1 23 = .ok (.goto 31, 3) := by decide +kernel
theorem d_K_hasRoomFor_26 : decode md_K_hasRoomFor.2.1 26 = .ok (.iconst 0, 1) := by decide +kernel
theorem d_K_hasRoomFor_27 : decode md_K_hasRoomFor.2.1 27 = .ok (.goto 27, 3) := by decide +kernel
theorem d_K_hasRoomFor_30 : decode md_K_hasRoomFor.2.1 30 = .ok (.aload_n 0, 1) := by decide +kernel
theorem d_K_hasRoomFor_31 : decode md_K_hasRoomFor.2.1 31 = .ok (.getfield 16, 3) := by decide +kernel
theorem d_K_hasRoomFor_34 : decode md_K_hasRoomFor.2.1 34 = .ok (.iload_n 3, 1) := by decide +kernel
theorem d_K_hasRoomFor_35 : decode md_K_hasRoomFor.2.1 35 = .ok (.invokevirtual 125, 3) := by decide +kernel
theorem d_K_hasRoomFor_38 : decode md_K_hasRoomFor.2.1 38 = .ok (.checkcast 196, 3) := by decide +kernel
theorem d_K_hasRoomFor_41 : decode md_K_hasRoomFor.2.1 41 = .ok (.getfield 204, 3) := by decide +kernel
theorem d_K_hasRoomFor_44 : decode md_K_hasRoomFor.2.1 44 = .ok (.bipush 60, 2) := by decide +kernel
theorem d_K_hasRoomFor_46 : decode md_K_hasRoomFor.2.1 46 = .ok (.if_icmp .ge 7, 3) := by decide +kernel
theorem d_K_hasRoomFor_49 : decode md_K_hasRoomFor.2.1 49 = .ok (.iconst 1, 1) := by decide +kernel
theorem d_K_hasRoomFor_50 : decode md_K_hasRoomFor.2.1 50 = .ok (.goto 4, 3) := by decide +kernel
theorem d_K_hasRoomFor_53 : decode md_K_hasRoomFor.2.1 53 = .ok (.iconst 0, 1) := by decide +kernel
theorem d_K_hasRoomFor_54 : decode md_K_hasRoomFor.2.1 54 = .ok (.ireturn, 1) := by decide +kernel
theorem d_K_take_0 : decode md_K_take.2.1 0 = .ok (.aload_n 0, 1) := by decide +kernel
theorem d_K_take_1 : decode md_K_take.2.1 1 = .ok (.lload_n 1, 1) := by decide +kernel
theorem d_K_take_2 : decode md_K_take.2.1 2 = .ok (.invokevirtual 190, 3) := by decide +kernel
theorem d_K_take_5 : decode md_K_take.2.1 5 = .ok (.istore 7, 2) := by decide +kernel
theorem d_K_take_7 : decode md_K_take.2.1 7 = .ok (.iload 7, 2) := by decide +kernel
theorem d_K_take_9 : decode md_K_take.2.1 9 = .ok (.ifCond .ge 36, 3) := by decide +kernel
theorem d_K_take_12 : decode md_K_take.2.1 12 = .ok (.aload_n 0, 1) := by decide +kernel
theorem d_K_take_13 : decode md_K_take.2.1 13 = .ok (.getfield 16, 3) := by decide +kernel
theorem d_K_take_16 : decode md_K_take.2.1 16 = .ok (.invokevirtual 92, 3) := by decide +kernel
theorem d_K_take_19 : decode md_K_take.2.1 19 = .ok (.istore 7, 2) := by decide +kernel
theorem d_K_take_21 : decode md_K_take.2.1 21 = .ok (.aload_n 0, 1) := by decide +kernel
theorem d_K_take_22 : decode md_K_take.2.1 22 = .ok (.getfield 16, 3) := by decide +kernel
theorem d_K_take_25 : decode md_K_take.2.1 25 = .ok (.new 196, 3) := by decide +kernel
theorem d_K_take_28 : decode md_K_take.2.1 28 = .ok (.dup, 1) := by decide +kernel
theorem d_K_take_29 : decode md_K_take.2.1 29 = .ok (.lload_n 1, 1) := by decide +kernel
theorem d_K_take_30 : decode md_K_take.2.1 30 = .ok (.aload_n 0, 1) := by decide +kernel
theorem d_K_take_31 : decode md_K_take.2.1 31 = .ok (.getfield 10, 3) := by decide +kernel
theorem d_K_take_34 : decode md_K_take.2.1 34 = .ok (.aload_n 0, 1) := by decide +kernel
theorem d_K_take_35 : decode md_K_take.2.1 35 = .ok (.invokevirtual 291, 3) := by decide +kernel
theorem d_K_take_38 : decode md_K_take.2.1 38 = .ok (.invokespecial 295, 3) := by decide +kernel
theorem d_K_take_41 : decode md_K_take.2.1 41 = .ok (.invokevirtual 112, 3) := by decide +kernel
theorem d_K_take_44 : decode md_K_take.2.1 44 = .ok (.pop, 1) := by decide +kernel
theorem d_K_take_45 : decode md_K_take.2.1 45 = .ok (.aload_n 0, 1) := by decide +kernel
theorem d_K_take_46 : decode md_K_take.2.1 46 = .ok (.getfield 16, 3) := by decide +kernel
theorem d_K_take_49 : decode md_K_take.2.1 49 = .ok (.iload 7, 2) := by decide +kernel
theorem d_K_take_51 : decode md_K_take.2.1 51 = .ok (.invokevirtual 125, 3) := by decide +kernel
theorem d_K_take_54 : decode md_K_take.2.1 54 = .ok (.checkcast 196, 3) := by decide +kernel
theorem d_K_take_57 : decode md_K_take.2.1 57 = .ok (.lload_n 3, 1) := by decide +kernel
theorem d_K_take_58 : decode md_K_take.2.1 58 = .ok (.lload 5, 2) := by decide +kernel
theorem d_K_take_60 : decode md_K_take.2.1 60 = .ok (.invokevirtual 298, 3) := by decide +kernel
theorem d_K_take_63 : decode md_K_take.2.1 63 = .ok (.aload_n 0, 1) := by decide +kernel
theorem d_K_take_64 : decode md_K_take.2.1 64 = .ok (.dup, 1) := by decide +kernel
theorem d_K_take_65 : decode md_K_take.2.1 65 = .ok (.getfield 54, 3) := by decide +kernel
theorem d_K_take_68 : decode md_K_take.2.1 68 = .ok (.iconst 1, 1) := by decide +kernel
theorem d_K_take_69 : decode md_K_take.2.1 69 = .ok (.iadd, 1) := by decide +kernel
theorem d_K_take_70 : decode md_K_take.2.1 70 = .ok (.putfield 54, 3) := by decide +kernel
theorem d_K_take_73 : decode md_K_take.2.1 73 = .ok (.aload_n 0, 1) := by decide +kernel
theorem d_K_take_74 : decode md_K_take.2.1 74 = .ok (.aload_n 0, 1) := by decide +kernel
theorem d_K_take_75 : decode md_K_take.2.1 75 = .ok (.getfield 47, 3) := by decide +kernel
theorem d_K_take_78 : decode md_K_take.2.1 78 = .ok (.lload_n 3, 1) := by decide +kernel
theorem d_K_take_79 : decode md_K_take.2.1 79 = .ok (.invokestatic 301, 3) := by decide +kernel
theorem d_K_take_82 : decode md_K_take.2.1 82 = .ok (.putfield 47, 3) := by decide +kernel
theorem d_K_take_85 : decode md_K_take.2.1 85 = .ok (.return_, 1) := by decide +kernel
theorem d_K_startStates_0 : decode md_K_startStates.2.1 0 = .ok (.aload_n 0, 1) := by decide +kernel
theorem d_K_startStates_1 : decode md_K_startStates.2.1 1 = .ok (.getfield 10, 3) := by decide +kernel
theorem d_K_startStates_4 : decode md_K_startStates.2.1 4 = .ok (.invokevirtual 92, 3) := by decide +kernel
theorem d_K_startStates_7 : decode md_K_startStates.2.1 7 = .ok (.newarray .long, 2) := by decide +kernel
theorem d_K_startStates_9 : decode md_K_startStates.2.1 9 = .ok (.astore_n 1, 1) := by decide +kernel
theorem d_K_startStates_10 : decode md_K_startStates.2.1 10 = .ok (.iconst 0, 1) := by decide +kernel
theorem d_K_startStates_11 : decode md_K_startStates.2.1 11 = .ok (.istore_n 2, 1) := by decide +kernel
theorem d_K_startStates_12 : decode md_K_startStates.2.1 12 = .ok (.iload_n 2, 1) := by decide +kernel
theorem d_K_startStates_13 : decode md_K_startStates.2.1 13 = .ok (.aload_n 1, 1) := by decide +kernel
theorem d_K_startStates_14 : decode md_K_startStates.2.1 14 = .ok (.arraylength, 1) := by decide +kernel
theorem d_K_startStates_15 : decode md_K_startStates.2.1 15 = .ok (.if_icmp .ge 26, 3) := by decide +kernel
theorem d_K_startStates_18 : decode md_K_startStates.2.1 18 = .ok (.aload_n 1, 1) := by decide +kernel
theorem d_K_startStates_19 : decode md_K_startStates.2.1 19 = .ok (.iload_n 2, 1) := by decide +kernel
theorem d_K_startStates_20 : decode md_K_startStates.2.1 20 = .ok (.aload_n 0, 1) := by decide +kernel
theorem d_K_startStates_21 : decode md_K_startStates.2.1 21 = .ok (.getfield 10, 3) := by decide +kernel
theorem d_K_startStates_24 : decode md_K_startStates.2.1 24 = .ok (.iload_n 2, 1) := by decide +kernel
theorem d_K_startStates_25 : decode md_K_startStates.2.1 25 = .ok (.invokevirtual 125, 3) := by decide +kernel
theorem d_K_startStates_28 : decode md_K_startStates.2.1 28 = .ok (.checkcast 107, 3) := by decide +kernel
theorem d_K_startStates_31 : decode md_K_startStates.2.1 31 = .ok (.getfield 304, 3) := by decide +kernel
theorem d_K_startStates_34 : decode md_K_startStates.2.1 34 = .ok (.lastore, 1) := by decide +kernel
theorem d_K_startStates_35 : decode md_K_startStates.2.1 35 = .ok (.iinc 2 1, 3) := by decide +kernel
theorem d_K_startStates_38 : decode md_K_startStates.2.1 38 = .ok (.goto (-26), 3) := by decide +kernel
theorem d_K_startStates_41 : decode md_K_startStates.2.1 41 = .ok (.aload_n 1, 1) := by decide +kernel
theorem d_K_startStates_42 : decode md_K_startStates.2.1 42 = .ok (.areturn, 1) := by decide +kernel
theorem d_R_init_0 : decode md_R_init.2.1 0 = .ok (.aload_n 0, 1) := by decide +kernel
theorem d_R_init_1 : decode md_R_init.2.1 1 = .ok (.invokespecial 3, 3) := by decide +kernel
theorem d_R_init_4 : decode md_R_init.2.1 4 = .ok (.aload_n 0, 1) := by decide +kernel
theorem d_R_init_5 : decode md_R_init.2.1 5 = .ok (.bipush 60, 2) := by decide +kernel
theorem d_R_init_7 : decode md_R_init.2.1 7 = .ok (.newarray .long, 2) := by decide +kernel
theorem d_R_init_9 : decode md_R_init.2.1 9 = .ok (.putfield 9, 3) := by decide +kernel
theorem d_R_init_12 : decode md_R_init.2.1 12 = .ok (.aload_n 0, 1) := by decide +kernel
theorem d_R_init_13 : decode md_R_init.2.1 13 = .ok (.bipush 60, 2) := by decide +kernel
theorem d_R_init_15 : decode md_R_init.2.1 15 = .ok (.newarray .long, 2) := by decide +kernel
theorem d_R_init_17 : decode md_R_init.2.1 17 = .ok (.putfield 15, 3) := by decide +kernel
theorem d_R_init_20 : decode md_R_init.2.1 20 = .ok (.aload_n 0, 1) := by decide +kernel
theorem d_R_init_21 : decode md_R_init.2.1 21 = .ok (.iconst 0, 1) := by decide +kernel
theorem d_R_init_22 : decode md_R_init.2.1 22 = .ok (.putfield 18, 3) := by decide +kernel
theorem d_R_init_25 : decode md_R_init.2.1 25 = .ok (.aload_n 0, 1) := by decide +kernel
theorem d_R_init_26 : decode md_R_init.2.1 26 = .ok (.iconst 0, 1) := by decide +kernel
theorem d_R_init_27 : decode md_R_init.2.1 27 = .ok (.putfield 22, 3) := by decide +kernel
theorem d_R_init_30 : decode md_R_init.2.1 30 = .ok (.aload_n 0, 1) := by decide +kernel
theorem d_R_init_31 : decode md_R_init.2.1 31 = .ok (.lload_n 1, 1) := by decide +kernel
theorem d_R_init_32 : decode md_R_init.2.1 32 = .ok (.putfield 25, 3) := by decide +kernel
theorem d_R_init_35 : decode md_R_init.2.1 35 = .ok (.aload_n 0, 1) := by decide +kernel
theorem d_R_init_36 : decode md_R_init.2.1 36 = .ok (.aload_n 3, 1) := by decide +kernel
theorem d_R_init_37 : decode md_R_init.2.1 37 = .ok (.putfield 29, 3) := by decide +kernel
theorem d_R_init_40 : decode md_R_init.2.1 40 = .ok (.aload_n 0, 1) := by decide +kernel
theorem d_R_init_41 : decode md_R_init.2.1 41 = .ok (.aload 4, 2) := by decide +kernel
theorem d_R_init_43 : decode md_R_init.2.1 43 = .ok (.putfield 33, 3) := by decide +kernel
theorem d_R_init_46 : decode md_R_init.2.1 46 = .ok (.return_, 1) := by decide +kernel
theorem d_R_take_0 : decode md_R_take.2.1 0 = .ok (.aload_n 0, 1) := by decide +kernel
theorem d_R_take_1 : decode md_R_take.2.1 1 = .ok (.getfield 18, 3) := by decide +kernel
theorem d_R_take_4 : decode md_R_take.2.1 4 = .ok (.bipush 60, 2) := by decide +kernel
theorem d_R_take_6 : decode md_R_take.2.1 6 = .ok (.if_icmp .lt 4, 3) := by decide +kernel
theorem d_R_take_9 : decode md_R_take.2.1 9 = .ok (.return_, 1) := by decide +kernel
theorem d_R_take_10 : decode md_R_take.2.1 10 = .ok (.aload_n 0, 1) := by decide +kernel
theorem d_R_take_11 : decode md_R_take.2.1 11 = .ok (.lload_n 1, 1) := by decide +kernel
theorem d_R_take_12 : decode md_R_take.2.1 12 = .ok (.lconst 1, 1) := by decide +kernel
theorem d_R_take_13 : decode md_R_take.2.1 13 = .ok (.ladd, 1) := by decide +kernel
theorem d_R_take_14 : decode md_R_take.2.1 14 = .ok (.invokevirtual 42, 3) := by decide +kernel
theorem d_R_take_17 : decode md_R_take.2.1 17 = .ok (.istore 5, 2) := by decide +kernel
theorem d_R_take_19 : decode md_R_take.2.1 19 = .ok (.aload_n 0, 1) := by decide +kernel
theorem d_R_take_20 : decode md_R_take.2.1 20 = .ok (.iload 5, 2) := by decide +kernel
theorem d_R_take_22 : decode md_R_take.2.1 22 = .ok (.lload_n 1, 1) := by decide +kernel
theorem d_R_take_23 : decode md_R_take.2.1 23 = .ok (.lload_n 3, 1) := by decide +kernel
theorem d_R_take_24 : decode md_R_take.2.1 24 = .ok (.invokevirtual 46, 3) := by decide +kernel
theorem d_R_take_27 : decode md_R_take.2.1 27 = .ok (.iload 5, 2) := by decide +kernel
theorem d_R_take_29 : decode md_R_take.2.1 29 = .ok (.aload_n 0, 1) := by decide +kernel
theorem d_R_take_30 : decode md_R_take.2.1 30 = .ok (.getfield 18, 3) := by decide +kernel
theorem d_R_take_33 : decode md_R_take.2.1 33 = .ok (.iconst 1, 1) := by decide +kernel
theorem d_R_take_34 : decode md_R_take.2.1 34 = .ok (.isub, 1) := by decide +kernel
theorem d_R_take_35 : decode md_R_take.2.1 35 = .ok (.if_icmp .ne 7, 3) := by decide +kernel
theorem d_R_take_38 : decode md_R_take.2.1 38 = .ok (.iconst 1, 1) := by decide +kernel
theorem d_R_take_39 : decode md_R_take.2.1 39 = .ok (.goto 4, 3) := by decide +kernel
theorem d_R_take_42 : decode md_R_take.2.1 42 = .ok (.iconst 0, 1) := by decide +kernel
theorem d_R_take_43 : decode md_R_take.2.1 43 = .ok (.istore 6, 2) := by decide +kernel
theorem d_R_take_45 : decode md_R_take.2.1 45 = .ok (.iconst 0, 1) := by decide +kernel
theorem d_R_take_46 : decode md_R_take.2.1 46 = .ok (.istore 7, 2) := by decide +kernel
theorem d_R_take_48 : decode md_R_take.2.1 48 = .ok (.iload 7, 2) := by decide +kernel
theorem d_R_take_50 : decode md_R_take.2.1 50 = .ok (.aload_n 0, 1) := by decide +kernel
theorem d_R_take_51 : decode md_R_take.2.1 51 = .ok (.getfield 29, 3) := by decide +kernel
theorem d_R_take_54 : decode md_R_take.2.1 54 = .ok (.invokevirtual 50, 3) := by decide +kernel
theorem d_R_take_57 : decode md_R_take.2.1 57 = .ok (.if_icmp .ge 101, 3) := by decide +kernel
theorem d_R_take_60 : decode md_R_take.2.1 60 = .ok (.aload_n 0, 1) := by decide +kernel
theorem d_R_take_61 : decode md_R_take.2.1 61 = .ok (.getfield 29, 3) := by decide +kernel
theorem d_R_take_64 : decode md_R_take.2.1 64 = .ok (.iload 7, 2) := by decide +kernel
theorem d_R_take_66 : decode md_R_take.2.1 66 = .ok (.invokevirtual 56, 3) := by decide +kernel
theorem d_R_take_69 : decode md_R_take.2.1 69 = .ok (.checkcast 60, 3) := by decide +kernel
theorem d_R_take_72 : decode md_R_take.2.1 72 = .ok (.astore 8, 2) := by decide +kernel
theorem d_R_take_74 : decode md_R_take.2.1 74 = .ok (.iload 6, 2) := by decide +kernel
theorem d_R_take_76 : decode md_R_take.2.1 76 = .ok (.ifCond .ne 11, 3) := by decide +kernel
theorem d_R_take_79 : decode md_R_take.2.1 79 = .ok (.aload 8, 2) := by decide +kernel
theorem d_R_take_81 : decode md_R_take.2.1 81 = .ok (.invokevirtual 62, 3) := by decide +kernel
theorem d_R_take_84 : decode md_R_take.2.1 84 = .ok (.ifCond .eq 38, 3) := by decide +kernel
theorem d_R_take_87 : decode md_R_take.2.1 87 = .ok (.aload_n 0, 1) := by decide +kernel
theorem d_R_take_88 : decode md_R_take.2.1 88 = .ok (.getfield 33, 3) := by decide +kernel
theorem d_R_take_91 : decode md_R_take.2.1 91 = .ok (.iload 7, 2) := by decide +kernel
theorem d_R_take_93 : decode md_R_take.2.1 93 = .ok (.aload_n 0, 1) := by decide +kernel
theorem d_R_take_94 : decode md_R_take.2.1 94 = .ok (.iload 5, 2) := by decide +kernel
theorem d_R_take_96 : decode md_R_take.2.1 96 = .ok (.aload 8, 2) := by decide +kernel
theorem d_R_take_98 : decode md_R_take.2.1 98 = .ok (.aload_n 0, 1) := by decide +kernel
theorem d_R_take_99 : decode md_R_take.2.1 99 = .ok (.getfield 33, 3) := by decide +kernel
theorem d_R_take_102 : decode md_R_take.2.1 102 = .ok (.iload 7, 2) := by decide +kernel
theorem d_R_take_104 : decode md_R_take.2.1 104 = .ok (.laload, 1) := by decide +kernel
theorem d_R_take_105 : decode md_R_take.2.1 105 = .ok (.invokevirtual 66, 3) := by decide +kernel
theorem d_R_take_108 : decode md_R_take.2.1 108 = .ok (.lastore, 1) := by decide +kernel
theorem d_R_take_109 : decode md_R_take.2.1 109 = .ok (.aload_n 0, 1) := by decide +kernel
theorem d_R_take_110 : decode md_R_take.2.1 110 = .ok (.dup, 1) := by decide +kernel
theorem d_R_take_111 : decode md_R_take.2.1 111 = .ok (.getfield 22, 3) := by decide +kernel
theorem d_R_take_114 : decode md_R_take.2.1 114 = .ok (.iconst 1, 1) := by decide +kernel
theorem d_R_take_115 : decode md_R_take.2.1 115 = .ok (.iadd, 1) := by decide +kernel
theorem d_R_take_116 : decode md_R_take.2.1 116 = .ok (.putfield 22, 3) := by decide +kernel
theorem d_R_take_119 : decode md_R_take.2.1 119 = .ok (.goto 33, 3) := by decide +kernel
theorem d_R_take_122 : decode md_R_take.2.1 122 = .ok (.aload_n 0, 1) := by decide +kernel
theorem d_R_take_123 : decode md_R_take.2.1 123 = .ok (.getfield 33, 3) := by decide +kernel
theorem d_R_take_126 : decode md_R_take.2.1 126 = .ok (.iload 7, 2) := by decide +kernel
theorem d_R_take_128 : decode md_R_take.2.1 128 = .ok (.aload_n 0, 1) := by decide +kernel
theorem d_R_take_129 : decode md_R_take.2.1 129 = .ok (.aload_n 0, 1) := by decide +kernel
theorem d_R_take_130 : decode md_R_take.2.1 130 = .ok (.getfield 18, 3) := by decide +kernel
theorem d_R_take_133 : decode md_R_take.2.1 133 = .ok (.aload 8, 2) := by decide +kernel
theorem d_R_take_135 : decode md_R_take.2.1 135 = .ok (.invokevirtual 70, 3) := by decide +kernel
theorem d_R_take_138 : decode md_R_take.2.1 138 = .ok (.lastore, 1) := by decide +kernel
theorem d_R_take_139 : decode md_R_take.2.1 139 = .ok (.aload_n 0, 1) := by decide +kernel
theorem d_R_take_140 : decode md_R_take.2.1 140 = .ok (.dup, 1) := by decide +kernel
theorem d_R_take_141 : decode md_R_take.2.1 141 = .ok (.getfield 22, 3) := by decide +kernel
theorem d_R_take_144 : decode md_R_take.2.1 144 = .ok (.aload_n 0, 1) := by decide +kernel
theorem d_R_take_145 : decode md_R_take.2.1 145 = .ok (.getfield 18, 3) := by decide +kernel
theorem d_R_take_148 : decode md_R_take.2.1 148 = .ok (.iadd, 1) := by decide +kernel
theorem d_R_take_149 : decode md_R_take.2.1 149 = .ok (.putfield 22, 3) := by decide +kernel
theorem d_R_take_152 : decode md_R_take.2.1 152 = .ok (.iinc 7 1, 3) := by decide +kernel
theorem d_R_take_155 : decode md_R_take.2.1 155 = .ok (.goto (-107), 3) := by decide +kernel
theorem d_R_take_158 : decode md_R_take.2.1 158 = .ok (.return_, 1) := by decide +kernel
theorem d_R_countBelow_0 : decode md_R_countBelow.2.1 0 = .ok (.iconst 0, 1) := by decide +kernel
theorem d_R_countBelow_1 : decode md_R_countBelow.2.1 1 = .ok (.istore_n 3, 1) := by decide +kernel
theorem d_R_countBelow_2 : decode md_R_countBelow.2.1 2 = .ok (.iload_n 3, 1) := by decide +kernel
theorem d_R_countBelow_3 : decode md_R_countBelow.2.1 3 = .ok (.aload_n 0, 1) := by decide +kernel
theorem d_R_countBelow_4 : decode md_R_countBelow.2.1 4 = .ok (.getfield 18, 3) := by decide +kernel
theorem d_R_countBelow_7 : decode md_R_countBelow.2.1 7 = .ok (.if_icmp .ge 20, 3) := by decide +kernel
theorem d_R_countBelow_10 : decode md_R_countBelow.2.1 10 = .ok (.aload_n 0, 1) := by decide +kernel
theorem d_R_countBelow_11 : decode md_R_countBelow.2.1 11 = .ok (.getfield 9, 3) := by decide +kernel
theorem d_R_countBelow_14 : decode md_R_countBelow.2.1 14 = .ok (.iload_n 3, 1) := by decide +kernel
theorem d_R_countBelow_15 : decode md_R_countBelow.2.1 15 = .ok (.laload, 1) := by decide +kernel
theorem d_R_countBelow_16 : decode md_R_countBelow.2.1 16 = .ok (.lload_n 1, 1) := by decide +kernel
theorem d_R_countBelow_17 : decode md_R_countBelow.2.1 17 = .ok (.lcmp, 1) := by decide +kernel
theorem d_R_countBelow_18 : decode md_R_countBelow.2.1 18 = .ok (.ifCond .ge 9, 3) := by decide +kernel
theorem d_R_countBelow_21 : decode md_R_countBelow.2.1 21 = .ok (.iinc 3 1, 3) := by decide +kernel
theorem d_R_countBelow_24 : decode md_R_countBelow.2.1 24 = .ok (.goto (-22), 3) := by decide +kernel
theorem d_R_countBelow_27 : decode md_R_countBelow.2.1 27 = .ok (.iload_n 3, 1) := by decide +kernel
theorem d_R_countBelow_28 : decode md_R_countBelow.2.1 28 = .ok (.ireturn, 1) := by decide +kernel
theorem d_R_insert_0 : decode md_R_insert.2.1 0 = .ok (.aload_n 0, 1) := by decide +kernel
theorem d_R_insert_1 : decode md_R_insert.2.1 1 = .ok (.getfield 18, 3) := by decide +kernel
theorem d_R_insert_4 : decode md_R_insert.2.1 4 = .ok (.istore 6, 2) := by decide +kernel
theorem d_R_insert_6 : decode md_R_insert.2.1 6 = .ok (.iload 6, 2) := by decide +kernel
theorem d_R_insert_8 : decode md_R_insert.2.1 8 = .ok (.iload_n 1, 1) := by decide +kernel
theorem d_R_insert_9 : decode md_R_insert.2.1 9 = .ok (.if_icmp .le 41, 3) := by decide +kernel
theorem d_R_insert_12 : decode md_R_insert.2.1 12 = .ok (.aload_n 0, 1) := by decide +kernel
theorem d_R_insert_13 : decode md_R_insert.2.1 13 = .ok (.getfield 9, 3) := by decide +kernel
theorem d_R_insert_16 : decode md_R_insert.2.1 16 = .ok (.iload 6, 2) := by decide +kernel
theorem d_R_insert_18 : decode md_R_insert.2.1 18 = .ok (.aload_n 0, 1) := by decide +kernel
theorem d_R_insert_19 : decode md_R_insert.2.1 19 = .ok (.getfield 9, 3) := by decide +kernel
theorem d_R_insert_22 : decode md_R_insert.2.1 22 = .ok (.iload 6, 2) := by decide +kernel
theorem d_R_insert_24 : decode md_R_insert.2.1 24 = .ok (.iconst 1, 1) := by decide +kernel
theorem d_R_insert_25 : decode md_R_insert.2.1 25 = .ok (.isub, 1) := by decide +kernel
theorem d_R_insert_26 : decode md_R_insert.2.1 26 = .ok (.laload, 1) := by decide +kernel
theorem d_R_insert_27 : decode md_R_insert.2.1 27 = .ok (.lastore, 1) := by decide +kernel
theorem d_R_insert_28 : decode md_R_insert.2.1 28 = .ok (.aload_n 0, 1) := by decide +kernel
theorem d_R_insert_29 : decode md_R_insert.2.1 29 = .ok (.getfield 15, 3) := by decide +kernel
theorem d_R_insert_32 : decode md_R_insert.2.1 32 = .ok (.iload 6, 2) := by decide +kernel
