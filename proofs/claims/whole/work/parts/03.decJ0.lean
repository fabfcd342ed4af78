theorem d_A_init_0 : decode md_A_init.2.1 0 = .ok (.aload_n 0, 1) := by decide +kernel
theorem d_A_init_1 : decode md_A_init.2.1 1 = .ok (.invokespecial 1, 3) := by decide +kernel
theorem d_A_init_4 : decode md_A_init.2.1 4 = .ok (.aload_n 0, 1) := by decide +kernel
theorem d_A_init_5 : decode md_A_init.2.1 5 = .ok (.getstatic 39, 3) := by decide +kernel
theorem d_A_init_8 : decode md_A_init.2.1 8 = .ok (.putfield 9, 3) := by decide +kernel
theorem d_A_init_11 : decode md_A_init.2.1 11 = .ok (.return_, 1) := by decide +kernel
theorem d_AL_init_0 : decode md_AL_init.2.1 0 = .ok (.aload_n 0, 1) := by decide +kernel
theorem d_AL_init_1 : decode md_AL_init.2.1 1 = .ok (.invokespecial 1, 3) := by decide +kernel
theorem d_AL_init_4 : decode md_AL_init.2.1 4 = .ok (.aload_n 0, 1) := by decide +kernel
theorem d_AL_init_5 : decode md_AL_init.2.1 5 = .ok (.iconst 0, 1) := by decide +kernel
theorem d_AL_init_6 : decode md_AL_init.2.1 6 = .ok (.putfield 7, 3) := by decide +kernel
theorem d_AL_init_9 : decode md_AL_init.2.1 9 = .ok (.return_, 1) := by decide +kernel
theorem d_AC_init_0 : decode md_AC_init.2.1 0 = .ok (.aload_n 0, 1) := by decide +kernel
theorem d_AC_init_1 : decode md_AC_init.2.1 1 = .ok (.invokespecial 1, 3) := by decide +kernel
theorem d_AC_init_4 : decode md_AC_init.2.1 4 = .ok (.return_, 1) := by decide +kernel
theorem d_MA_min_0 : decode md_MA_min.2.1 0 = .ok (.iload_n 0, 1) := by decide +kernel
theorem d_MA_min_1 : decode md_MA_min.2.1 1 = .ok (.iload_n 1, 1) := by decide +kernel
theorem d_MA_min_2 : decode md_MA_min.2.1 2 = .ok (.if_icmp .gt 7, 3) := by decide +kernel
theorem d_MA_min_5 : decode md_MA_min.2.1 5 = .ok (.iload_n 0, 1) := by decide +kernel
theorem d_MA_min_6 : decode md_MA_min.2.1 6 = .ok (.goto 4, 3) := by decide +kernel
theorem d_MA_min_9 : decode md_MA_min.2.1 9 = .ok (.iload_n 1, 1) := by decide +kernel
theorem d_MA_min_10 : decode md_MA_min.2.1 10 = .ok (.ireturn, 1) := by decide +kernel
theorem d_MA_max_0 : decode md_MA_max.2.1 0 = .ok (.iload_n 0, 1) := by decide +kernel
theorem d_MA_max_1 : decode md_MA_max.2.1 1 = .ok (.iload_n 1, 1) := by decide +kernel
theorem d_MA_max_2 : decode md_MA_max.2.1 2 = .ok (.if_icmp .lt 7, 3) := by decide +kernel
theorem d_MA_max_5 : decode md_MA_max.2.1 5 = .ok (.iload_n 0, 1) := by decide +kernel
theorem d_MA_max_6 : decode md_MA_max.2.1 6 = .ok (.goto 4, 3) := by decide +kernel
theorem d_MA_max_9 : decode md_MA_max.2.1 9 = .ok (.iload_n 1, 1) := by decide +kernel
theorem d_MA_max_10 : decode md_MA_max.2.1 10 = .ok (.ireturn, 1) := by decide +kernel
theorem d_A_size_0 : decode md_A_size.2.1 0 = .ok (.aload_n 0, 1) := by decide +kernel
theorem d_A_size_1 : decode md_A_size.2.1 1 = .ok (.getfield 48, 3) := by decide +kernel
theorem d_A_size_4 : decode md_A_size.2.1 4 = .ok (.ireturn, 1) := by decide +kernel
theorem d_A_isEmpty_0 : decode md_A_isEmpty.2.1 0 = .ok (.aload_n 0, 1) := by decide +kernel
theorem d_A_isEmpty_1 : decode md_A_isEmpty.2.1 1 = .ok (.getfield 48, 3) := by decide +kernel
theorem d_A_isEmpty_4 : decode md_A_isEmpty.2.1 4 = .ok (.ifCond .ne 7, 3) := by decide +kernel
theorem d_A_isEmpty_7 : decode md_A_isEmpty.2.1 7 = .ok (.iconst 1, 1) := by decide +kernel
theorem d_A_isEmpty_8 : decode md_A_isEmpty.2.1 8 = .ok (.goto 4, 3) := by decide +kernel
theorem d_A_isEmpty_11 : decode md_A_isEmpty.2.1 11 = .ok (.iconst 0, 1) := by decide +kernel
theorem d_A_isEmpty_12 : decode md_A_isEmpty.2.1 12 = .ok (.ireturn, 1) := by decide +kernel
theorem d_A_add_0 : decode md_A_add.2.1 0 = .ok (.aload_n 0, 1) := by decide +kernel
theorem d_A_add_1 : decode md_A_add.2.1 1 = .ok (.dup, 1) := by decide +kernel
theorem d_A_add_2 : decode md_A_add.2.1 2 = .ok (.getfield 63, 3) := by decide +kernel
theorem d_A_add_5 : decode md_A_add.2.1 5 = .ok (.iconst 1, 1) := by decide +kernel
theorem d_A_add_6 : decode md_A_add.2.1 6 = .ok (.iadd, 1) := by decide +kernel
theorem d_A_add_7 : decode md_A_add.2.1 7 = .ok (.putfield 63, 3) := by decide +kernel
theorem d_A_add_10 : decode md_A_add.2.1 10 = .ok (.aload_n 0, 1) := by decide +kernel
theorem d_A_add_11 : decode md_A_add.2.1 11 = .ok (.aload_n 1, 1) := by decide +kernel
theorem d_A_add_12 : decode md_A_add.2.1 12 = .ok (.aload_n 0, 1) := by decide +kernel
theorem d_A_add_13 : decode md_A_add.2.1 13 = .ok (.getfield 9, 3) := by decide +kernel
theorem d_A_add_16 : decode md_A_add.2.1 16 = .ok (.aload_n 0, 1) := by decide +kernel
theorem d_A_add_17 : decode md_A_add.2.1 17 = .ok (.getfield 48, 3) := by decide +kernel
theorem d_A_add_20 : decode md_A_add.2.1 20 = .ok (.invokevirtual 131, 3) := by decide +kernel
theorem d_A_add_23 : decode md_A_add.2.1 23 = .ok (.iconst 1, 1) := by decide +kernel
theorem d_A_add_24 : decode md_A_add.2.1 24 = .ok (.ireturn, 1) := by decide +kernel
theorem d_A_add2_0 : decode md_A_add2.2.1 0 = .ok (.iload_n 3, 1) := by decide +kernel
theorem d_A_add2_1 : decode md_A_add2.2.1 1 = .ok (.aload_n 2, 1) := by decide +kernel
theorem d_A_add2_2 : decode md_A_add2.2.1 2 = .ok (.arraylength, 1) := by decide +kernel
theorem d_A_add2_3 : decode md_A_add2.2.1 3 = .ok (.if_icmp .ne 8, 3) := by decide +kernel
theorem d_A_add2_6 : decode md_A_add2.2.1 6 = .ok (.aload_n 0, 1) := by decide +kernel
theorem d_A_add2_7 : decode md_A_add2.2.1 7 = .ok (.invokevirtual 129, 3) := by decide +kernel
theorem d_A_add2_10 : decode md_A_add2.2.1 10 = .ok (.astore_n 2, 1) := by decide +kernel
theorem d_A_add2_11 : decode md_A_add2.2.1 11 = .ok (.aload_n 2, 1) := by decide +kernel
theorem d_A_add2_12 : decode md_A_add2.2.1 12 = .ok (.iload_n 3, 1) := by decide +kernel
theorem d_A_add2_13 : decode md_A_add2.2.1 13 = .ok (.aload_n 1, 1) := by decide +kernel
theorem d_A_add2_14 : decode md_A_add2.2.1 14 = .ok (.aastore, 1) := by decide +kernel
theorem d_A_add2_15 : decode md_A_add2.2.1 15 = .ok (.aload_n 0, 1) := by decide +kernel
theorem d_A_add2_16 : decode md_A_add2.2.1 16 = .ok (.iload_n 3, 1) := by decide +kernel
theorem d_A_add2_17 : decode md_A_add2.2.1 17 = .ok (.iconst 1, 1) := by decide +kernel
theorem d_A_add2_18 : decode md_A_add2.2.1 18 = .ok (.iadd, 1) := by decide +kernel
theorem d_A_add2_19 : decode md_A_add2.2.1 19 = .ok (.putfield 48, 3) := by decide +kernel
theorem d_A_add2_22 : decode md_A_add2.2.1 22 = .ok (.return_, 1) := by decide +kernel
theorem d_A_grow_0 : decode md_A_grow.2.1 0 = .ok (.aload_n 0, 1) := by decide +kernel
theorem d_A_grow_1 : decode md_A_grow.2.1 1 = .ok (.aload_n 0, 1) := by decide +kernel
theorem d_A_grow_2 : decode md_A_grow.2.1 2 = .ok (.getfield 48, 3) := by decide +kernel
theorem d_A_grow_5 : decode md_A_grow.2.1 5 = .ok (.iconst 1, 1) := by decide +kernel
theorem d_A_grow_6 : decode md_A_grow.2.1 6 = .ok (.iadd, 1) := by decide +kernel
theorem d_A_grow_7 : decode md_A_grow.2.1 7 = .ok (.invokevirtual 69, 3) := by decide +kernel
theorem d_A_grow_10 : decode md_A_grow.2.1 10 = .ok (.areturn, 1) := by decide +kernel
theorem d_A_grow2_0 : decode md_A_grow2.2.1 0 = .ok (.aload_n 0, 1) := by decide +kernel
theorem d_A_grow2_1 : decode md_A_grow2.2.1 1 = .ok (.getfield 9, 3) := by decide +kernel
theorem d_A_grow2_4 : decode md_A_grow2.2.1 4 = .ok (.arraylength, 1) := by decide +kernel
theorem d_A_grow2_5 : decode md_A_grow2.2.1 5 = .ok (.istore_n 2, 1) := by decide +kernel
theorem d_A_grow2_6 : decode md_A_grow2.2.1 6 = .ok (.iload_n 2, 1) := by decide +kernel
theorem d_A_grow2_7 : decode md_A_grow2.2.1 7 = .ok (.ifCond .gt 13, 3) := by decide +kernel
theorem d_A_grow2_10 : decode md_A_grow2.2.1 10 = .ok (.aload_n 0, 1) := by decide +kernel
theorem d_A_grow2_11 : decode md_A_grow2.2.1 11 = .ok (.getfield 9, 3) := by decide +kernel
theorem d_A_grow2_14 : decode md_A_grow2.2.1 14 = .ok (.getstatic 39, 3) := by decide +kernel
theorem d_A_grow2_17 : decode md_A_grow2.2.1 17 = .ok (.if_acmp .eq 28, 3) := by decide +kernel
theorem d_A_grow2_20 : decode md_A_grow2.2.1 20 = .ok (.iload_n 2, 1) := by decide +kernel
theorem d_A_grow2_21 : decode md_A_grow2.2.1 21 = .ok (.iload_n 1, 1) := by decide +kernel
theorem d_A_grow2_22 : decode md_A_grow2.2.1 22 = .ok (.iload_n 2, 1) := by decide +kernel
theorem d_A_grow2_23 : decode md_A_grow2.2.1 23 = .ok (.isub, 1) := by decide +kernel
theorem d_A_grow2_24 : decode md_A_grow2.2.1 24 = .ok (.iload_n 2, 1) := by decide +kernel
theorem d_A_grow2_25 : decode md_A_grow2.2.1 25 = .ok (.iconst 1, 1) := by decide +kernel
theorem d_A_grow2_26 : decode md_A_grow2.2.1 26 = .ok (.ishr, 1) := by decide +kernel
theorem d_A_grow2_27 : decode md_A_grow2.2.1 27 = .ok (.invokestatic 73, 3) := by decide +kernel
theorem d_A_grow2_30 : decode md_A_grow2.2.1 30 = .ok (.istore_n 3, 1) := by decide +kernel
theorem d_A_grow2_31 : decode md_A_grow2.2.1 31 = .ok (.aload_n 0, 1) := by decide +kernel
theorem d_A_grow2_32 : decode md_A_grow2.2.1 32 = .ok (.aload_n 0, 1) := by decide +kernel
theorem d_A_grow2_33 : decode md_A_grow2.2.1 33 = .ok (.getfield 9, 3) := by decide +kernel
theorem d_A_grow2_36 : decode md_A_grow2.2.1 36 = .ok (.iload_n 3, 1) := by decide +kernel
theorem d_A_grow2_37 : decode md_A_grow2.2.1 37 = .ok (.invokestatic 66, 3) := by decide +kernel
theorem d_A_grow2_40 : decode md_A_grow2.2.1 40 = .ok (.dup_x1, 1) := by decide +kernel
theorem d_A_grow2_41 : decode md_A_grow2.2.1 41 = .ok (.putfield 9, 3) := by decide +kernel
theorem d_A_grow2_44 : decode md_A_grow2.2.1 44 = .ok (.areturn, 1) := by decide +kernel
theorem d_A_grow2_45 : decode md_A_grow2.2.1 45 = .ok (.aload_n 0, 1) := by decide +kernel
theorem d_A_grow2_46 : decode md_A_grow2.2.1 46 = .ok (.bipush 10, 2) := by decide +kernel
theorem d_A_grow2_48 : decode md_A_grow2.2.1 48 = .ok (.iload_n 1, 1) := by decide +kernel
theorem d_A_grow2_49 : decode md_A_grow2.2.1 49 = .ok (.invokestatic 79, 3) := by decide +kernel
theorem d_A_grow2_52 : decode md_A_grow2.2.1 52 = .ok (.anewarray 7, 3) := by decide +kernel
theorem d_A_grow2_55 : decode md_A_grow2.2.1 55 = .ok (.dup_x1, 1) := by decide +kernel
theorem d_A_grow2_56 : decode md_A_grow2.2.1 56 = .ok (.putfield 9, 3) := by decide +kernel
theorem d_A_grow2_59 : decode md_A_grow2.2.1 59 = .ok (.areturn, 1) := by decide +kernel
theorem d_AS_newLength_0 : decode md_AS_newLength.2.1 0 = .ok (.iload_n 0, 1) := by decide +kernel
theorem d_AS_newLength_1 : decode md_AS_newLength.2.1 1 = .ok (.iload_n 1, 1) := by decide +kernel
theorem d_AS_newLength_2 : decode md_AS_newLength.2.1 2 = .ok (.iload_n 2, 1) := by decide +kernel
theorem d_AS_newLength_3 : decode md_AS_newLength.2.1 3 = .ok (.invokestatic 194, 3) := by decide +kernel
theorem d_AS_newLength_6 : decode md_AS_newLength.2.1 6 = .ok (.iadd, 1) := by decide +kernel
theorem d_AS_newLength_7 : decode md_AS_newLength.2.1 7 = .ok (.istore_n 3, 1) := by decide +kernel
theorem d_AS_newLength_8 : decode md_AS_newLength.2.1 8 = .ok (.iconst 0, 1) := by decide +kernel
theorem d_AS_newLength_9 : decode md_AS_newLength.2.1 9 = .ok (.iload_n 3, 1) := by decide +kernel
theorem d_AS_newLength_10 : decode md_AS_newLength.2.1 10 = .ok (.if_icmp .ge 11, 3) := by decide +kernel
theorem d_AS_newLength_13 : decode md_AS_newLength.2.1 13 = .ok (.iload_n 3, 1) := by decide +kernel
theorem d_AS_newLength_14 : decode md_AS_newLength.2.1 14 = .ok (.ldc 200, 2) := by decide +kernel
theorem d_AS_newLength_16 : decode md_AS_newLength.2.1 16 = .ok (.if_icmp .gt 5, 3) := by decide +kernel
theorem d_AS_newLength_19 : decode md_AS_newLength.2.1 19 = .ok (.iload_n 3, 1) := by decide +kernel
theorem d_AS_newLength_20 : decode md_AS_newLength.2.1 20 = .ok (.ireturn, 1) := by decide +kernel
theorem d_AS_newLength_21 : decode md_AS_newLength.2.1 21 = .ok (.iload_n 0, 1) := by decide +kernel
theorem d_AS_newLength_22 : decode md_AS_newLength.2.1 22 = .ok (.iload_n 1, 1) := by decide +kernel
theorem d_AS_newLength_23 : decode md_AS_newLength.2.1 23 = .ok (.invokestatic 201, 3) := by decide +kernel
theorem d_AS_newLength_26 : decode md_AS_newLength.2.1 26 = .ok (.ireturn, 1) := by decide +kernel
theorem d_AR_copyOf_0 : decode md_AR_copyOf.2.1 0 = .ok (.aload_n 0, 1) := by decide +kernel
theorem d_AR_copyOf_1 : decode md_AR_copyOf.2.1 1 = .ok (.iload_n 1, 1) := by decide +kernel
theorem d_AR_copyOf_2 : decode md_AR_copyOf.2.1 2 = .ok (.aload_n 0, 1) := by decide +kernel
theorem d_AR_copyOf_3 : decode md_AR_copyOf.2.1 3 = .ok (.invokevirtual 86, 3) := by decide +kernel
theorem d_AR_copyOf_6 : decode md_AR_copyOf.2.1 6 = .ok (.invokestatic 300, 3) := by decide +kernel
theorem d_AR_copyOf_9 : decode md_AR_copyOf.2.1 9 = .ok (.areturn, 1) := by decide +kernel
theorem d_AR_copyOf2_0 : decode md_AR_copyOf2.2.1 0 = .ok (.aload_n 2, 1) := by decide +kernel
theorem d_AR_copyOf2_1 : decode md_AR_copyOf2.2.1 1 = .ok (.ldc 110, 2) := by decide +kernel
theorem d_AR_copyOf2_3 : decode md_AR_copyOf2.2.1 3 = .ok (.if_acmp .ne 10, 3) := by decide +kernel
theorem d_AR_copyOf2_6 : decode md_AR_copyOf2.2.1 6 = .ok (.iload_n 1, 1) := by decide +kernel
theorem d_AR_copyOf2_7 : decode md_AR_copyOf2.2.1 7 = .ok (.anewarray 2, 3) := by decide +kernel
theorem d_AR_copyOf2_10 : decode md_AR_copyOf2.2.1 10 = .ok (.goto 14, 3) := by decide +kernel
theorem d_AR_copyOf2_13 : decode md_AR_copyOf2.2.1 13 = .ok (.aload_n 2, 1) := by decide +kernel
theorem d_AR_copyOf2_14 : decode md_AR_copyOf2.2.1 14 = .ok (.invokevirtual 90, 3) := by decide +kernel
theorem d_AR_copyOf2_17 : decode md_AR_copyOf2.2.1 17 = .ok (.iload_n 1, 1) := by decide +kernel
theorem d_AR_copyOf2_18 : decode md_AR_copyOf2.2.1 18 = .ok (.invokestatic 95, 3) := by decide +kernel
theorem d_AR_copyOf2_21 : decode md_AR_copyOf2.2.1 21 = .ok (.checkcast 110, 3) := by decide +kernel
theorem d_AR_copyOf2_24 : decode md_AR_copyOf2.2.1 24 = .ok (.astore_n 3, 1) := by decide +kernel
theorem d_AR_copyOf2_25 : decode md_AR_copyOf2.2.1 25 = .ok (.aload_n 0, 1) := by decide +kernel
theorem d_AR_copyOf2_26 : decode md_AR_copyOf2.2.1 26 = .ok (.iconst 0, 1) := by decide +kernel
theorem d_AR_copyOf2_27 : decode md_AR_copyOf2.2.1 27 = .ok (.aload_n 3, 1) := by decide +kernel
theorem d_AR_copyOf2_28 : decode md_AR_copyOf2.2.1 28 = .ok (.iconst 0, 1) := by decide +kernel
theorem d_AR_copyOf2_29 : decode md_AR_copyOf2.2.1 29 = .ok (.aload_n 0, 1) := by decide +kernel
theorem d_AR_copyOf2_30 : decode md_AR_copyOf2.2.1 30 = .ok (.arraylength, 1) := by decide +kernel
theorem d_AR_copyOf2_31 : decode md_AR_copyOf2.2.1 31 = .ok (.iload_n 1, 1) := by decide +kernel
theorem d_AR_copyOf2_32 : decode md_AR_copyOf2.2.1 32 = .ok (.invokestatic 304, 3) := by decide +kernel
theorem d_AR_copyOf2_35 : decode md_AR_copyOf2.2.1 35 = .ok (.invokestatic 150, 3) := by decide +kernel
theorem d_AR_copyOf2_38 : decode md_AR_copyOf2.2.1 38 = .ok (.aload_n 3, 1) := by decide +kernel
theorem d_AR_copyOf2_39 : decode md_AR_copyOf2.2.1 39 = .ok (.areturn, 1) := by decide +kernel
theorem d_A_get_0 : decode md_A_get.2.1 0 = .ok (.iload_n 1, 1) := by decide +kernel
theorem d_A_get_1 : decode md_A_get.2.1 1 = .ok (.aload_n 0, 1) := by decide +kernel
theorem d_A_get_2 : decode md_A_get.2.1 2 = .ok (.getfield 48, 3) := by decide +kernel
theorem d_A_get_5 : decode md_A_get.2.1 5 = .ok (.invokestatic 118, 3) := by decide +kernel
theorem d_A_get_8 : decode md_A_get.2.1 8 = .ok (.pop, 1) := by decide +kernel
theorem d_A_get_9 : decode md_A_get.2.1 9 = .ok (.aload_n 0, 1) := by decide +kernel
theorem d_A_get_10 : decode md_A_get.2.1 10 = .ok (.iload_n 1, 1) := by decide +kernel
theorem d_A_get_11 : decode md_A_get.2.1 11 = .ok (.invokevirtual 123, 3) := by decide +kernel
theorem d_A_get_14 : decode md_A_get.2.1 14 = .ok (.areturn, 1) := by decide +kernel
theorem d_OB_checkIndex_0 : decode md_OB_checkIndex.2.1 0 = .ok (.iload_n 0, 1) := by decide +kernel
theorem d_OB_checkIndex_1 : decode md_OB_checkIndex.2.1 1 = .ok (.iload_n 1, 1) := by decide +kernel
theorem d_OB_checkIndex_2 : decode md_OB_checkIndex.2.1 2 = .ok (.aconst_null, 1) := by decide +kernel
theorem d_OB_checkIndex_3 : decode md_OB_checkIndex.2.1 3 = .ok (.invokestatic 105, 3) := by decide +kernel
theorem d_OB_checkIndex_6 : decode md_OB_checkIndex.2.1 6 = .ok (.ireturn, 1) := by decide +kernel
theorem d_PC_checkIndex_0 : decode md_PC_checkIndex.2.1 0 = .ok (.iload_n 0, 1) := by decide +kernel
theorem d_PC_checkIndex_1 : decode md_PC_checkIndex.2.1 1 = .ok (.ifCond .lt 8, 3) := by decide +kernel
theorem d_PC_checkIndex_4 : decode md_PC_checkIndex.2.1 4 = .ok (.iload_n 0, 1) := by decide +kernel
theorem d_PC_checkIndex_5 : decode md_PC_checkIndex.2.1 5 = .ok (.iload_n 1, 1) := by decide +kernel
theorem d_PC_checkIndex_6 : decode md_PC_checkIndex.2.1 6 = .ok (.if_icmp .lt 10, 3) := by decide +kernel
theorem d_PC_checkIndex_9 : decode md_PC_checkIndex.2.1 9 = .ok (.aload_n 2, 1) := by decide +kernel
theorem d_PC_checkIndex_10 : decode md_PC_checkIndex.2.1 10 = .ok (.iload_n 0, 1) := by decide +kernel
theorem d_PC_checkIndex_11 : decode md_PC_checkIndex.2.1 11 = .ok (.iload_n 1, 1) := by decide +kernel
theorem d_PC_checkIndex_12 : decode md_PC_checkIndex.2.1 12 = .ok (.invokestatic 95, 3) := by decide +kernel
theorem d_PC_checkIndex_15 : decode md_PC_checkIndex.2.1 15 = .ok (.athrow, 1) := by decide +kernel
theorem d_PC_checkIndex_16 : decode md_PC_checkIndex.2.1 16 = .ok (.iload_n 0, 1) := by decide +kernel
theorem d_PC_checkIndex_17 : decode md_PC_checkIndex.2.1 17 = .ok (.ireturn, 1) := by decide +kernel
theorem d_A_elementData_0 : decode md_A_elementData.2.1 0 = .ok (.aload_n 0, 1) := by decide +kernel
theorem d_A_elementData_1 : decode md_A_elementData.2.1 1 = .ok (.getfield 9, 3) := by decide +kernel
theorem d_A_elementData_4 : decode md_A_elementData.2.1 4 = .ok (.iload_n 1, 1) := by decide +kernel
theorem d_A_elementData_5 : decode md_A_elementData.2.1 5 = .ok (.aaload, 1) := by decide +kernel
theorem d_A_elementData_6 : decode md_A_elementData.2.1 6 = .ok (.areturn, 1) := by decide +kernel
theorem d_MA_abs_0 : decode md_MA_abs.2.1 0 = .ok (.lload_n 0, 1) := by decide +kernel
theorem d_MA_abs_1 : decode md_MA_abs.2.1 1 = .ok (.lconst 0, 1) := by decide +kernel
theorem d_MA_abs_2 : decode md_MA_abs.2.1 2 = .ok (.lcmp, 1) := by decide +kernel
theorem d_MA_abs_3 : decode md_MA_abs.2.1 3 = .ok (.ifCond .ge 8, 3) := by decide +kernel
theorem d_MA_abs_6 : decode md_MA_abs.2.1 6 = .ok (.lload_n 0, 1) := by decide +kernel
theorem d_MA_abs_7 : decode md_MA_abs.2.1 7 = .ok (.lneg, 1) := by decide +kernel
theorem d_MA_abs_8 : decode md_MA_abs.2.1 8 = .ok (.goto 4, 3) := by decide +kernel
theorem d_MA_abs_11 : decode md_MA_abs.2.1 11 = .ok (.lload_n 0, 1) := by decide +kernel
theorem d_MA_abs_12 : decode md_MA_abs.2.1 12 = .ok (.lreturn, 1) := by decide +kernel
theorem d_MA_max2_0 : decode md_MA_max2.2.1 0 = .ok (.lload_n 0, 1) := by decide +kernel
theorem d_MA_max2_1 : decode md_MA_max2.2.1 1 = .ok (.lload_n 2, 1) := by decide +kernel
theorem d_MA_max2_2 : decode md_MA_max2.2.1 2 = .ok (.lcmp, 1) := by decide +kernel
theorem d_MA_max2_3 : decode md_MA_max2.2.1 3 = .ok (.ifCond .lt 7, 3) := by decide +kernel
theorem d_MA_max2_6 : decode md_MA_max2.2.1 6 = .ok (.lload_n 0, 1) := by decide +kernel
theorem d_MA_max2_7 : decode md_MA_max2.2.1 7 = .ok (.goto 4, 3) := by decide +kernel
theorem d_MA_max2_10 : decode md_MA_max2.2.1 10 = .ok (.lload_n 2, 1) := by decide +kernel
theorem d_MA_max2_11 : decode md_MA_max2.2.1 11 = .ok (.lreturn, 1) := by decide +kernel
theorem d_MA_min2_0 : decode md_MA_min2.2.1 0 = .ok (.lload_n 0, 1) := by decide +kernel
theorem d_MA_min2_1 : decode md_MA_min2.2.1 1 = .ok (.lload_n 2, 1) := by decide +kernel
theorem d_MA_min2_2 : decode md_MA_min2.2.1 2 = .ok (.lcmp, 1) := by decide +kernel
theorem d_MA_min2_3 : decode md_MA_min2.2.1 3 = .ok (.ifCond .gt 7, 3) := by decide +kernel
theorem d_MA_min2_6 : decode md_MA_min2.2.1 6 = .ok (.lload_n 0, 1) := by decide +kernel
theorem d_MA_min2_7 : decode md_MA_min2.2.1 7 = .ok (.goto 4, 3) := by decide +kernel
theorem d_MA_min2_10 : decode md_MA_min2.2.1 10 = .ok (.lload_n 2, 1) := by decide +kernel
theorem d_MA_min2_11 : decode md_MA_min2.2.1 11 = .ok (.lreturn, 1) := by decide +kernel
