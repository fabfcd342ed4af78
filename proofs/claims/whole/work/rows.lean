section
-- ===== PART A: goes FIRST, ahead of the names: the tables' words, and 'selects' of the private methods out of them =====
/-- a private method of a class that the tables say can be made, by its rows of tables_1 -/
def lw_okq (q : MethodName × Nat) : Prop := (q.1.cls ≠ "java/lang/invoke/MethodHandle" ∧ q.1.cls ≠ "java/lang/invoke/VarHandle") ∧ Cond.instantiable q.1.cls q.2 ∈ tables_1 ∧ Cond.privateMethod q.1 ∈ tables_1 ∧ Cond.instanceMethod q.1 ∈ tables_1
theorem lw_p0 : lw_okq (⟨"java/lang/Throwable", "fillInStackTrace", "(I)Ljava/lang/Throwable;"⟩, 6) := ⟨⟨by decide +kernel, by decide +kernel⟩, List.mem_of_getElem? (i := 207) (by decide +kernel), List.mem_of_getElem? (i := 205) (by decide +kernel), List.mem_of_getElem? (i := 206) (by decide +kernel)⟩
theorem lw_p1 : lw_okq (⟨"java/util/ArrayList", "add", "(Ljava/lang/Object;[Ljava/lang/Object;I)V"⟩, 3) := ⟨⟨by decide +kernel, by decide +kernel⟩, List.mem_of_getElem? (i := 31) (by decide +kernel), List.mem_of_getElem? (i := 287) (by decide +kernel), List.mem_of_getElem? (i := 288) (by decide +kernel)⟩
theorem lw_p2 : lw_okq (⟨"java/util/ArrayList", "grow", "()[Ljava/lang/Object;"⟩, 3) := ⟨⟨by decide +kernel, by decide +kernel⟩, List.mem_of_getElem? (i := 31) (by decide +kernel), List.mem_of_getElem? (i := 291) (by decide +kernel), List.mem_of_getElem? (i := 292) (by decide +kernel)⟩
theorem lw_p3 : lw_okq (⟨"java/util/ArrayList", "grow", "(I)[Ljava/lang/Object;"⟩, 3) := ⟨⟨by decide +kernel, by decide +kernel⟩, List.mem_of_getElem? (i := 31) (by decide +kernel), List.mem_of_getElem? (i := 295) (by decide +kernel), List.mem_of_getElem? (i := 296) (by decide +kernel)⟩
theorem lw_p4 : lw_okq (⟨"KeyedFolds", "isFold", "(I)Z"⟩, 18) := ⟨⟨by decide +kernel, by decide +kernel⟩, List.mem_of_getElem? (i := 23) (by decide +kernel), List.mem_of_getElem? (i := 344) (by decide +kernel), List.mem_of_getElem? (i := 345) (by decide +kernel)⟩
theorem lw_p5 : lw_okq (⟨"KeyedFolds$StoppedKeys", "placeOf", "(J)I"⟩, 2) := ⟨⟨by decide +kernel, by decide +kernel⟩, List.mem_of_getElem? (i := 57) (by decide +kernel), List.mem_of_getElem? (i := 415) (by decide +kernel), List.mem_of_getElem? (i := 416) (by decide +kernel)⟩
theorem lw_p6 : lw_okq (⟨"KeyedFolds", "codeOf", "(JJJ)I"⟩, 18) := ⟨⟨by decide +kernel, by decide +kernel⟩, List.mem_of_getElem? (i := 23) (by decide +kernel), List.mem_of_getElem? (i := 420) (by decide +kernel), List.mem_of_getElem? (i := 421) (by decide +kernel)⟩
theorem lw_p7 : lw_okq (⟨"KeyedFolds", "isLate", "(J)Z"⟩, 18) := ⟨⟨by decide +kernel, by decide +kernel⟩, List.mem_of_getElem? (i := 23) (by decide +kernel), List.mem_of_getElem? (i := 424) (by decide +kernel), List.mem_of_getElem? (i := 425) (by decide +kernel)⟩
theorem lw_p8 : lw_okq (⟨"KeyedFolds", "hasWatermark", "()Z"⟩, 18) := ⟨⟨by decide +kernel, by decide +kernel⟩, List.mem_of_getElem? (i := 23) (by decide +kernel), List.mem_of_getElem? (i := 428) (by decide +kernel), List.mem_of_getElem? (i := 429) (by decide +kernel)⟩
theorem lw_p9 : lw_okq (⟨"KeyedFolds", "watermarkTime", "()J"⟩, 18) := ⟨⟨by decide +kernel, by decide +kernel⟩, List.mem_of_getElem? (i := 23) (by decide +kernel), List.mem_of_getElem? (i := 432) (by decide +kernel), List.mem_of_getElem? (i := 433) (by decide +kernel)⟩
theorem lw_p10 : lw_okq (⟨"KeyedFolds", "placeOfKey", "(J)I"⟩, 18) := ⟨⟨by decide +kernel, by decide +kernel⟩, List.mem_of_getElem? (i := 23) (by decide +kernel), List.mem_of_getElem? (i := 436) (by decide +kernel), List.mem_of_getElem? (i := 437) (by decide +kernel)⟩
theorem lw_p11 : lw_okq (⟨"KeyedFolds", "causeOf", "(J)I"⟩, 18) := ⟨⟨by decide +kernel, by decide +kernel⟩, List.mem_of_getElem? (i := 23) (by decide +kernel), List.mem_of_getElem? (i := 448) (by decide +kernel), List.mem_of_getElem? (i := 449) (by decide +kernel)⟩
theorem lw_p12 : lw_okq (⟨"KeyedFolds", "hasRoomFor", "(J)Z"⟩, 18) := ⟨⟨by decide +kernel, by decide +kernel⟩, List.mem_of_getElem? (i := 23) (by decide +kernel), List.mem_of_getElem? (i := 452) (by decide +kernel), List.mem_of_getElem? (i := 453) (by decide +kernel)⟩
theorem lw_p13 : lw_okq (⟨"KeyedFolds", "take", "(JJJ)V"⟩, 18) := ⟨⟨by decide +kernel, by decide +kernel⟩, List.mem_of_getElem? (i := 23) (by decide +kernel), List.mem_of_getElem? (i := 457) (by decide +kernel), List.mem_of_getElem? (i := 458) (by decide +kernel)⟩
theorem lw_p14 : lw_okq (⟨"KeyedFolds", "startStates", "()[J"⟩, 18) := ⟨⟨by decide +kernel, by decide +kernel⟩, List.mem_of_getElem? (i := 23) (by decide +kernel), List.mem_of_getElem? (i := 462) (by decide +kernel), List.mem_of_getElem? (i := 463) (by decide +kernel)⟩
theorem lw_p15 : lw_okq (⟨"KeyedFolds$KeyRows", "insert", "(IJJ)V"⟩, 7) := ⟨⟨by decide +kernel, by decide +kernel⟩, List.mem_of_getElem? (i := 460) (by decide +kernel), List.mem_of_getElem? (i := 506) (by decide +kernel), List.mem_of_getElem? (i := 507) (by decide +kernel)⟩
def lw_privs_1 : List (MethodName × Nat) := [(⟨"java/lang/Throwable", "fillInStackTrace", "(I)Ljava/lang/Throwable;"⟩, 6), (⟨"java/util/ArrayList", "add", "(Ljava/lang/Object;[Ljava/lang/Object;I)V"⟩, 3), (⟨"java/util/ArrayList", "grow", "()[Ljava/lang/Object;"⟩, 3), (⟨"java/util/ArrayList", "grow", "(I)[Ljava/lang/Object;"⟩, 3), (⟨"KeyedFolds", "isFold", "(I)Z"⟩, 18), (⟨"KeyedFolds$StoppedKeys", "placeOf", "(J)I"⟩, 2), (⟨"KeyedFolds", "codeOf", "(JJJ)I"⟩, 18), (⟨"KeyedFolds", "isLate", "(J)Z"⟩, 18), (⟨"KeyedFolds", "hasWatermark", "()Z"⟩, 18), (⟨"KeyedFolds", "watermarkTime", "()J"⟩, 18), (⟨"KeyedFolds", "placeOfKey", "(J)I"⟩, 18), (⟨"KeyedFolds", "causeOf", "(J)I"⟩, 18), (⟨"KeyedFolds", "hasRoomFor", "(J)Z"⟩, 18), (⟨"KeyedFolds", "take", "(JJJ)V"⟩, 18), (⟨"KeyedFolds", "startStates", "()[J"⟩, 18), (⟨"KeyedFolds$KeyRows", "insert", "(IJJ)V"⟩, 7)]
theorem lw_r1 : ∀ q ∈ lw_privs_1, lw_okq q := List.forall_mem_cons.mpr ⟨lw_p0, List.forall_mem_cons.mpr ⟨lw_p1, List.forall_mem_cons.mpr ⟨lw_p2, List.forall_mem_cons.mpr ⟨lw_p3, List.forall_mem_cons.mpr ⟨lw_p4, List.forall_mem_cons.mpr ⟨lw_p5, List.forall_mem_cons.mpr ⟨lw_p6, List.forall_mem_cons.mpr ⟨lw_p7, List.forall_mem_cons.mpr ⟨lw_p8, List.forall_mem_cons.mpr ⟨lw_p9, List.forall_mem_cons.mpr ⟨lw_p10, List.forall_mem_cons.mpr ⟨lw_p11, List.forall_mem_cons.mpr ⟨lw_p12, List.forall_mem_cons.mpr ⟨lw_p13, List.forall_mem_cons.mpr ⟨lw_p14, List.forall_mem_cons.mpr ⟨lw_p15, fun _ h => absurd h List.not_mem_nil⟩⟩⟩⟩⟩⟩⟩⟩⟩⟩⟩⟩⟩⟩⟩⟩
theorem lw_p16 : lw_okq (⟨"KeyedFolds$KeyRows", "stepAt", "(ILKeyedFolds$Fold;J)J"⟩, 7) := ⟨⟨by decide +kernel, by decide +kernel⟩, List.mem_of_getElem? (i := 460) (by decide +kernel), List.mem_of_getElem? (i := 521) (by decide +kernel), List.mem_of_getElem? (i := 522) (by decide +kernel)⟩
theorem lw_p17 : lw_okq (⟨"KeyedFolds", "letRowsLeave", "()V"⟩, 18) := ⟨⟨by decide +kernel, by decide +kernel⟩, List.mem_of_getElem? (i := 23) (by decide +kernel), List.mem_of_getElem? (i := 536) (by decide +kernel), List.mem_of_getElem? (i := 537) (by decide +kernel)⟩
theorem lw_p18 : lw_okq (⟨"KeyedFolds$KeyRows", "takeBackFirst", "(I)V"⟩, 7) := ⟨⟨by decide +kernel, by decide +kernel⟩, List.mem_of_getElem? (i := 460) (by decide +kernel), List.mem_of_getElem? (i := 544) (by decide +kernel), List.mem_of_getElem? (i := 545) (by decide +kernel)⟩
theorem lw_p19 : lw_okq (⟨"KeyedFolds$KeyRows", "removeFirst", "(I)V"⟩, 7) := ⟨⟨by decide +kernel, by decide +kernel⟩, List.mem_of_getElem? (i := 460) (by decide +kernel), List.mem_of_getElem? (i := 553) (by decide +kernel), List.mem_of_getElem? (i := 554) (by decide +kernel)⟩
theorem lw_p20 : lw_okq (⟨"KeyedFolds$KeyRows", "foldTheOthersAnew", "()V"⟩, 7) := ⟨⟨by decide +kernel, by decide +kernel⟩, List.mem_of_getElem? (i := 460) (by decide +kernel), List.mem_of_getElem? (i := 557) (by decide +kernel), List.mem_of_getElem? (i := 558) (by decide +kernel)⟩
theorem lw_p21 : lw_okq (⟨"KeyedFolds", "doTimers", "()V"⟩, 18) := ⟨⟨by decide +kernel, by decide +kernel⟩, List.mem_of_getElem? (i := 23) (by decide +kernel), List.mem_of_getElem? (i := 561) (by decide +kernel), List.mem_of_getElem? (i := 562) (by decide +kernel)⟩
theorem lw_p22 : lw_okq (⟨"KeyedFolds", "tellStatesBelow", "(J)V"⟩, 18) := ⟨⟨by decide +kernel, by decide +kernel⟩, List.mem_of_getElem? (i := 23) (by decide +kernel), List.mem_of_getElem? (i := 569) (by decide +kernel), List.mem_of_getElem? (i := 570) (by decide +kernel)⟩
theorem lw_p23 : lw_okq (⟨"KeyedFolds", "putOut", "(JLKeyedFolds$KeyRows;I)V"⟩, 18) := ⟨⟨by decide +kernel, by decide +kernel⟩, List.mem_of_getElem? (i := 23) (by decide +kernel), List.mem_of_getElem? (i := 574) (by decide +kernel), List.mem_of_getElem? (i := 575) (by decide +kernel)⟩
theorem lw_p24 : lw_okq (⟨"KeyedFolds", "turnAway", "(IJJJ)V"⟩, 18) := ⟨⟨by decide +kernel, by decide +kernel⟩, List.mem_of_getElem? (i := 23) (by decide +kernel), List.mem_of_getElem? (i := 587) (by decide +kernel), List.mem_of_getElem? (i := 588) (by decide +kernel)⟩
theorem lw_p25 : lw_okq (⟨"KeyedFolds", "putAside", "(JJJI)V"⟩, 18) := ⟨⟨by decide +kernel, by decide +kernel⟩, List.mem_of_getElem? (i := 23) (by decide +kernel), List.mem_of_getElem? (i := 591) (by decide +kernel), List.mem_of_getElem? (i := 592) (by decide +kernel)⟩
theorem lw_p26 : lw_okq (⟨"KeyedFoldsModel", "held", "(I)I"⟩, 33) := ⟨⟨by decide +kernel, by decide +kernel⟩, List.mem_of_getElem? (i := 701) (by decide +kernel), List.mem_of_getElem? (i := 707) (by decide +kernel), List.mem_of_getElem? (i := 708) (by decide +kernel)⟩
theorem lw_p27 : lw_okq (⟨"KeyedFoldsModel", "isFold", "(I)Z"⟩, 33) := ⟨⟨by decide +kernel, by decide +kernel⟩, List.mem_of_getElem? (i := 701) (by decide +kernel), List.mem_of_getElem? (i := 825) (by decide +kernel), List.mem_of_getElem? (i := 826) (by decide +kernel)⟩
theorem lw_p28 : lw_okq (⟨"KeyedFoldsModel", "failsAtIt", "(IJ)Z"⟩, 33) := ⟨⟨by decide +kernel, by decide +kernel⟩, List.mem_of_getElem? (i := 701) (by decide +kernel), List.mem_of_getElem? (i := 829) (by decide +kernel), List.mem_of_getElem? (i := 830) (by decide +kernel)⟩
theorem lw_p29 : lw_okq (⟨"KeyedFoldsModel", "stopOf", "(J)I"⟩, 33) := ⟨⟨by decide +kernel, by decide +kernel⟩, List.mem_of_getElem? (i := 701) (by decide +kernel), List.mem_of_getElem? (i := 842) (by decide +kernel), List.mem_of_getElem? (i := 843) (by decide +kernel)⟩
theorem lw_p30 : lw_okq (⟨"KeyedFoldsModel", "putAside", "(JJJI)V"⟩, 33) := ⟨⟨by decide +kernel, by decide +kernel⟩, List.mem_of_getElem? (i := 701) (by decide +kernel), List.mem_of_getElem? (i := 846) (by decide +kernel), List.mem_of_getElem? (i := 847) (by decide +kernel)⟩
theorem lw_p31 : lw_okq (⟨"KeyedFoldsModel", "keyOf", "(J)I"⟩, 33) := ⟨⟨by decide +kernel, by decide +kernel⟩, List.mem_of_getElem? (i := 701) (by decide +kernel), List.mem_of_getElem? (i := 850) (by decide +kernel), List.mem_of_getElem? (i := 851) (by decide +kernel)⟩
def lw_privs_2 : List (MethodName × Nat) := [(⟨"KeyedFolds$KeyRows", "stepAt", "(ILKeyedFolds$Fold;J)J"⟩, 7), (⟨"KeyedFolds", "letRowsLeave", "()V"⟩, 18), (⟨"KeyedFolds$KeyRows", "takeBackFirst", "(I)V"⟩, 7), (⟨"KeyedFolds$KeyRows", "removeFirst", "(I)V"⟩, 7), (⟨"KeyedFolds$KeyRows", "foldTheOthersAnew", "()V"⟩, 7), (⟨"KeyedFolds", "doTimers", "()V"⟩, 18), (⟨"KeyedFolds", "tellStatesBelow", "(J)V"⟩, 18), (⟨"KeyedFolds", "putOut", "(JLKeyedFolds$KeyRows;I)V"⟩, 18), (⟨"KeyedFolds", "turnAway", "(IJJJ)V"⟩, 18), (⟨"KeyedFolds", "putAside", "(JJJI)V"⟩, 18), (⟨"KeyedFoldsModel", "held", "(I)I"⟩, 33), (⟨"KeyedFoldsModel", "isFold", "(I)Z"⟩, 33), (⟨"KeyedFoldsModel", "failsAtIt", "(IJ)Z"⟩, 33), (⟨"KeyedFoldsModel", "stopOf", "(J)I"⟩, 33), (⟨"KeyedFoldsModel", "putAside", "(JJJI)V"⟩, 33), (⟨"KeyedFoldsModel", "keyOf", "(J)I"⟩, 33)]
theorem lw_r2 : ∀ q ∈ lw_privs_2, lw_okq q := List.forall_mem_cons.mpr ⟨lw_p16, List.forall_mem_cons.mpr ⟨lw_p17, List.forall_mem_cons.mpr ⟨lw_p18, List.forall_mem_cons.mpr ⟨lw_p19, List.forall_mem_cons.mpr ⟨lw_p20, List.forall_mem_cons.mpr ⟨lw_p21, List.forall_mem_cons.mpr ⟨lw_p22, List.forall_mem_cons.mpr ⟨lw_p23, List.forall_mem_cons.mpr ⟨lw_p24, List.forall_mem_cons.mpr ⟨lw_p25, List.forall_mem_cons.mpr ⟨lw_p26, List.forall_mem_cons.mpr ⟨lw_p27, List.forall_mem_cons.mpr ⟨lw_p28, List.forall_mem_cons.mpr ⟨lw_p29, List.forall_mem_cons.mpr ⟨lw_p30, List.forall_mem_cons.mpr ⟨lw_p31, fun _ h => absurd h List.not_mem_nil⟩⟩⟩⟩⟩⟩⟩⟩⟩⟩⟩⟩⟩⟩⟩⟩
theorem lw_p32 : lw_okq (⟨"KeyedFoldsModel", "isDouble", "(IJJ)Z"⟩, 33) := ⟨⟨by decide +kernel, by decide +kernel⟩, List.mem_of_getElem? (i := 701) (by decide +kernel), List.mem_of_getElem? (i := 854) (by decide +kernel), List.mem_of_getElem? (i := 855) (by decide +kernel)⟩
theorem lw_p33 : lw_okq (⟨"KeyedFoldsModel", "causeOf", "(J)I"⟩, 33) := ⟨⟨by decide +kernel, by decide +kernel⟩, List.mem_of_getElem? (i := 701) (by decide +kernel), List.mem_of_getElem? (i := 858) (by decide +kernel), List.mem_of_getElem? (i := 859) (by decide +kernel)⟩
theorem lw_p34 : lw_okq (⟨"KeyedFoldsModel", "take", "(IJJ)V"⟩, 33) := ⟨⟨by decide +kernel, by decide +kernel⟩, List.mem_of_getElem? (i := 701) (by decide +kernel), List.mem_of_getElem? (i := 862) (by decide +kernel), List.mem_of_getElem? (i := 863) (by decide +kernel)⟩
theorem lw_p35 : lw_okq (⟨"KeyedFoldsModel", "mayBeJoined", "(I)Z"⟩, 33) := ⟨⟨by decide +kernel, by decide +kernel⟩, List.mem_of_getElem? (i := 701) (by decide +kernel), List.mem_of_getElem? (i := 866) (by decide +kernel), List.mem_of_getElem? (i := 867) (by decide +kernel)⟩
theorem lw_p36 : lw_okq (⟨"KeyedFoldsModel", "leave", "(I)V"⟩, 33) := ⟨⟨by decide +kernel, by decide +kernel⟩, List.mem_of_getElem? (i := 701) (by decide +kernel), List.mem_of_getElem? (i := 870) (by decide +kernel), List.mem_of_getElem? (i := 871) (by decide +kernel)⟩
theorem lw_p37 : lw_okq (⟨"KeyedFoldsModel", "mayBeTakenBack", "(I)Z"⟩, 33) := ⟨⟨by decide +kernel, by decide +kernel⟩, List.mem_of_getElem? (i := 701) (by decide +kernel), List.mem_of_getElem? (i := 874) (by decide +kernel), List.mem_of_getElem? (i := 875) (by decide +kernel)⟩
theorem lw_p38 : lw_okq (⟨"KeyedFoldsModel", "timers", "()V"⟩, 33) := ⟨⟨by decide +kernel, by decide +kernel⟩, List.mem_of_getElem? (i := 701) (by decide +kernel), List.mem_of_getElem? (i := 878) (by decide +kernel), List.mem_of_getElem? (i := 879) (by decide +kernel)⟩
theorem lw_p39 : lw_okq (⟨"KeyedFoldsModel", "tell", "(IJ)V"⟩, 33) := ⟨⟨by decide +kernel, by decide +kernel⟩, List.mem_of_getElem? (i := 701) (by decide +kernel), List.mem_of_getElem? (i := 883) (by decide +kernel), List.mem_of_getElem? (i := 884) (by decide +kernel)⟩
theorem lw_p40 : lw_okq (⟨"KeyedFoldsModel", "foldOf", "(IIJ)J"⟩, 33) := ⟨⟨by decide +kernel, by decide +kernel⟩, List.mem_of_getElem? (i := 701) (by decide +kernel), List.mem_of_getElem? (i := 887) (by decide +kernel), List.mem_of_getElem? (i := 888) (by decide +kernel)⟩
theorem lw_p41 : lw_okq (⟨"KeyedFoldsModel", "step", "(IJJJZJ)J"⟩, 33) := ⟨⟨by decide +kernel, by decide +kernel⟩, List.mem_of_getElem? (i := 701) (by decide +kernel), List.mem_of_getElem? (i := 891) (by decide +kernel), List.mem_of_getElem? (i := 892) (by decide +kernel)⟩
def lw_privs_3 : List (MethodName × Nat) := [(⟨"KeyedFoldsModel", "isDouble", "(IJJ)Z"⟩, 33), (⟨"KeyedFoldsModel", "causeOf", "(J)I"⟩, 33), (⟨"KeyedFoldsModel", "take", "(IJJ)V"⟩, 33), (⟨"KeyedFoldsModel", "mayBeJoined", "(I)Z"⟩, 33), (⟨"KeyedFoldsModel", "leave", "(I)V"⟩, 33), (⟨"KeyedFoldsModel", "mayBeTakenBack", "(I)Z"⟩, 33), (⟨"KeyedFoldsModel", "timers", "()V"⟩, 33), (⟨"KeyedFoldsModel", "tell", "(IJ)V"⟩, 33), (⟨"KeyedFoldsModel", "foldOf", "(IIJ)J"⟩, 33), (⟨"KeyedFoldsModel", "step", "(IJJJZJ)J"⟩, 33)]
theorem lw_r3 : ∀ q ∈ lw_privs_3, lw_okq q := List.forall_mem_cons.mpr ⟨lw_p32, List.forall_mem_cons.mpr ⟨lw_p33, List.forall_mem_cons.mpr ⟨lw_p34, List.forall_mem_cons.mpr ⟨lw_p35, List.forall_mem_cons.mpr ⟨lw_p36, List.forall_mem_cons.mpr ⟨lw_p37, List.forall_mem_cons.mpr ⟨lw_p38, List.forall_mem_cons.mpr ⟨lw_p39, List.forall_mem_cons.mpr ⟨lw_p40, List.forall_mem_cons.mpr ⟨lw_p41, fun _ h => absurd h List.not_mem_nil⟩⟩⟩⟩⟩⟩⟩⟩⟩⟩
def lw_privs : List (MethodName × Nat) := lw_privs_1 ++ (lw_privs_2 ++ (lw_privs_3))
def lw_tbl : List Cond := k2_sels lw_privs ++ tables_1
theorem lw_privs_ok : ∀ q ∈ lw_privs, lw_okq q := by
  show ∀ q ∈ lw_privs_1 ++ (lw_privs_2 ++ (lw_privs_3)), lw_okq q
  exact List.forall_mem_append.mpr ⟨lw_r1, List.forall_mem_append.mpr ⟨lw_r2, lw_r3⟩⟩
-- ===== end of PART A; then your names; then what follows =====
end
section
/-! ===== BEGIN words of one list among another's, by their places ===== -/
theorem goodIn_r {big : List Cond} (ws : List Cond) (ps : List Nat) (hp : ws = ps.filterMap (fun i => big[i]?)) (h : ws.all goodWord = true) : GoodIn big ws := by
  intro w hw
  have h1 := List.all_eq_true.mp h w hw
  rw [hp] at hw
  obtain ⟨i, -, hi⟩ := List.mem_filterMap.mp hw
  have hm : w ∈ big := by first | exact List.mem_of_getElem? hi | exact List.getElem?_mem hi
  exact ⟨hm, good_of_word h1⟩
theorem goodIn_app {big a b : List Cond} (ha : GoodIn big a) (hb : GoodIn big b) : GoodIn big (a ++ b) := fun w h => (List.mem_append.mp h).elim (ha w) (hb w)
theorem goodIn_ca {big a b : List Cond} {c : Cond} (ha : GoodIn big (c :: a)) (hb : GoodIn big b) : GoodIn big (c :: (a ++ b)) := fun w h => (List.mem_cons.mp h).elim (fun e => ha w (List.mem_cons.mpr (Or.inl e))) (fun h => (List.mem_append.mp h).elim (fun h => ha w (List.mem_cons.mpr (Or.inr h))) (hb w))
theorem goodIn_sub {big ws : List Cond} (hm : ∀ w ∈ ws, w ∈ big) (h : ws.all goodWord = true) : GoodIn big ws := fun w hw => ⟨hm w hw, good_of_word (List.all_eq_true.mp h w hw)⟩
/-! ===== END ===== -/

/-! ===== BEGIN exceptions that leave a method, and their catching by the caller (launches without stack traces) ===== -/
section VXA
/-! The laws vx_back, vx_callV, vx_callS, vx_callSW, vx_throw0, vx_throwS follow proofs of the library, with one case more: JvmDerived/Free/Laws.lean (Back.of_free), Shelf42/LK1.lean (callV, callS), Shelf/KitTraced.lean (throwNew0V, throwNewS). -/
/-- where a method has thrown q: the class by its name, the cell, what was written, the world -/
def vx_T (XC : String → State → State → Prop) (st : State) (q : Addr) (t : State) (mc ms : Nat) (free : Addr → Prop) : Prop :=
  ∃ (E : String) (ce : Cell) (L : List Loc), XC E st t ∧ t.heap[q]? = some ce ∧ ce.vm = .none ∧ st.vm.findClass E = some ce.cls ∧ st.WarmedH t.vm ∧ st.sameButNew ({ t with vm := st.vm } : State) L mc ms ∧ ∀ z ∈ L, free z.base
def vx_Q (Qc : Array Value → State → Outcome → State → Prop) (XC : String → State → State → Prop) (mc ms : Nat) (free : Addr → Prop) : Array Value → State → Outcome → State → Prop := fun a st o t =>
  (Qc a st o t ∧ ∃ L, FrameEnd st o t L mc ms ∧ ∀ q ∈ L, free q.base) ∨ ∃ q, o = .threw q ∧ vx_T XC st q t mc ms free
/-- a callee that returns or throws -/
def vx_Met (l : Launch) (y : MethodName) (ws : List Cond) (rm : Room) (Pc : Array Value → State → Prop) (Qc : Array Value → State → Outcome → State → Prop) (XC : String → State → State → Prop) (mc ms : Nat) (free : Addr → Prop) : Prop :=
  MetFree l y (headSpec ws rm) Pc (fun _ _ _ _ _ => True) (vx_Q Qc XC mc ms free)
def vx_Post (XC : String → State → State → Prop) (mc ms : Nat) (free : Addr → Prop) : Pt → Array Value → Addr → Pt → Prop := fun A a q B =>
  ∃ (g : JFrame) (mk : MethodId) (t : State) (L : List Loc) (E : String) (ce : Cell), B.U.heap = t.heap ∧ B.U.vm = t.vm ∧ XC E (A.U.calling g mk a) t ∧ t.heap[q]? = some ce ∧ ce.vm = .none ∧ A.U.vm.findClass E = some ce.cls ∧ B.locs = A.locs ++ L ∧ (∀ z ∈ L, free z.base) ∧ B.cells = A.cells + mc ∧ B.slots = A.slots + ms
def vx_Back (l : Launch) (R : Room) (p : Program) (e : Env) (below : List Frame) (s : State) (sargs : Array Value) (y : MethodName) (len W9 : Nat)
    (Pre : Pt → Array Value → Prop) (Post : Pt → Array Value → Option Value → Pt → Prop) (PostX : Pt → Array Value → Addr → Pt → Prop) : Prop :=
  ∀ (m : MethodId) (meth : Method) (c : Code) (A : Pt) (g : JFrame) (ig : Instr) (mk : MethodId) (a : Array Value),
    Stand p l e R s m sargs below meth c A.U A.locs A.cells A.slots → g.method = m → g.locals.size = c.maxLocals → decode c.code g.pc = .ok (ig, len) →
    2 * g.monitorRoom + (g.stack.map fun v => v.category).sum ≤ W9 → A.U.methodNamed? y = some mk → Pre A a →
    (∃ (v : Option Value) (B : Pt), Stand p l e R s m sargs below meth c B.U B.locs B.cells B.slots ∧ Post A a v B ∧
      Steps p.tables e below (doInvoke e (A.U.setTop g) [] mk a).1 (B.U.setTop { g with pc := g.pc + len, stack := v.toList ++ g.stack })) ∨
    (∃ (q : Addr) (B : Pt), Stand p l e R s m sargs below meth c B.U B.locs B.cells B.slots ∧ PostX A a q B ∧
      Steps p.tables e below (doInvoke e (A.U.setTop g) [] mk a).1 ((B.U.setTop g).pushFrame (.throwing q)))
section Payer
variable {l : Launch} {R : Room} {p : Program} {e : Env} {below : List Frame} {s : State} {sargs : Array Value} {y : MethodName} {len W9 : Nat}
theorem vx_back {ws : List Cond} {rm : Room} {Pc : Array Value → State → Prop} {Qc : Array Value → State → Outcome → State → Prop} {XC : String → State → State → Prop} {mc ms : Nat} {free : Addr → Prop} {bytes : ByteArray} {maxL : Nat} {ret : Option FieldType}
    (hM : vx_Met l y ws rm Pc Qc XC mc ms free) (hblind : FrameBlind Pc) (hrc : rm.cells = mc) (hrs : rm.slots = ms)
    (hframes : rm.frames + 1 ≤ R.frames) (hlocals : W9 + (maxL + 11) + rm.locals ≤ R.locals)
    (hws : ∀ w ∈ ws, ∀ a' U, s.WarmedH U.vm → w.before a' U = true) (hcode : Cond.code y bytes maxL ret ∈ ws) (hinit : ∀ a' U, s.WarmedH U.vm → (Cond.initialized y.cls).before a' U = true) :
    vx_Back l R p e below s sargs y len W9 (PreOf R mc ms Pc) (PostOf Qc mc ms free) (vx_Post XC mc ms free) := by
  intro m meth c A g ig mk a X hg hsize hdg hW hn hp
  have h1 : (headSpec ws rm).pre.before a A.U = true := atoms_intro fun w hw => hws w hw _ _ X.warmed
  have h2 : (Cond.code y bytes maxL ret).before a A.U = true := hws _ hcode _ _ X.warmed
  have h3 : (Cond.initialized y.cls).before a A.U = true := hinit _ _ X.warmed
  have h4 : A.cells + (headSpec ws rm).room.cells ≤ R.cells := by rw [show (headSpec ws rm).room.cells = mc from hrc]; exact hp.1
  have h5 : A.slots + (headSpec ws rm).room.slots ≤ R.slots := by rw [show (headSpec ws rm).room.slots = ms from hrs]; exact hp.2.1
  have hPc : Pc a (A.U.calling g mk a) := hblind _ _ _ _ hp.2.2
  obtain ⟨U, Ls, c0, s0⟩ := A
  dsimp only [Pt.U, Pt.locs, Pt.cells, Pt.slots] at h1 h2 h3 h4 h5 X hn hPc ⊢
  obtain ⟨methY, cY, hmY, hcY, -, hlY, -, -, -, -⟩ := Cond.code_spec hn h2
  obtain ⟨kY, hkY, -⟩ := className_of_methodNamed hn
  have hinitY : kY.init = .initialized := Cond.initialized_spec (findClass_of_methodNamed hn) hkY h3
  have h : At U g.method c below := by rw [hg]; exact X.here
  have hlocals9 : W9 + (maxL + 11) + (headSpec ws rm).room.locals ≤ R.locals := hlocals
  have happ : (headSpec ws rm).appliesLoose y e.platform (U.calling g mk a) = true :=
    Spec.appliesLoose_calling (g := g) h hdg hn hkY hinitY
      (X.room_calling (g := g) (R' := (headSpec ws rm).room) hsize hmY hcY hframes (by rw [hlY]; omega) h4 h5) h1
  obtain ⟨mid, hmid⟩ := h.above
  have hfr : (U.setTop g).frames = (.java g :: mid) ++ below := by rw [State.frames_setTop' g h.top, hmid]; rfl
  obtain ⟨o, s₂, hsteps, -, hend, hq⟩ := Steps.callFree hM p X.admits X.cas X.clock (acts := []) hfr happ hPc trivial
  have hq' : vx_Q Qc XC mc ms free a (U.calling g mk a) o s₂ := hq
  rw [State.frames_setTop' g h.top] at hend
  obtain ⟨g₀, hg0⟩ := Option.isSome_iff_exists.mp h.top
  obtain ⟨r, hr⟩ := State.topJava?_eq_some.mp hg0
  have hr' : (({ U with heap := s₂.heap, slotsUsed := s₂.slotsUsed } : State).setVm s₂.vm).frames = .java g₀ :: r := hr
  rcases hq' with ⟨hqc, L, hfe, hL⟩ | ⟨q, rfl, E, ce, L, hx, hce, hcv, hcl, hW₂, hsm, hL⟩
  · obtain ⟨⟨v, rfl⟩, hW₂, e2, q2, q3, q4, q5, q6⟩ := id hfe
    have e3 : s₂ = ({ (U.calling g mk a).setFrames s₂.frames with heap := s₂.heap, slotsUsed := s₂.slotsUsed } : State).setVm s₂.vm := by
      have : s₂ = ({ s₂ with vm := (U.calling g mk a).vm } : State).setVm s₂.vm := rfl
      rw [e2] at this
      exact this
    obtain ⟨c₂, i₂, len₂, hc₂, hd₂, hf₂⟩ := hend
    have hW' : U.WarmedH s₂.vm := hW₂
    have hcc : c₂ = c := by
      have h1 : s₂.code? g.method = U.code? g.method := by
        rw [State.code?_eq, State.code?_eq, hW'.alike.method?]
      exact Option.some.inj (hc₂.symm.trans (h1.trans h.code))
    subst hcc
    have hlen : len₂ = len := by rw [hdg] at hd₂; cases hd₂; rfl
    subst hlen
    have hs₂ : s₂ = (({ U with heap := s₂.heap, slotsUsed := s₂.slotsUsed } : State).setVm s₂.vm).setTop { g with pc := g.pc + len₂, stack := v.toList ++ g.stack } := by
      refine e3.trans ?_
      rw [hf₂, State.calling_eq h.top, State.setFrames_setFrames, State.setTop_of_frames _ hr', hr]
      rfl
    have hsame : U.sameButNew ({ U with heap := s₂.heap, slotsUsed := s₂.slotsUsed } : State) L mc ms := by
      refine ⟨?_, q2, q3, q4, q5, q6⟩
      obtain ⟨t, ht, -⟩ := State.frames_cons hr
      show ({ U with heap := s₂.heap, slotsUsed := s₂.slotsUsed } : State) = { U.setFrames U.frames with heap := s₂.heap, slotsUsed := s₂.slotsUsed }
      rw [State.setFrames_self ht]
    subst hg
    refine Or.inl ⟨v, ⟨(({ U with heap := s₂.heap, slotsUsed := s₂.slotsUsed } : State).setVm s₂.vm), Ls ++ L, c0 + mc, s0 + ms⟩,
      ⟨X.admits, X.cas, X.clock, X.frames, X.room, X.hears, X.method, X.code, (X.here.setHeapUsed s₂.heap s₂.slotsUsed).setVm hW'.alike, X.tail, State.WarmedH.trans X.warmed hW', X.limits, X.bytes, X.same.trans (hsame.setVm s.vm)⟩,
      ⟨g, mk, s₂, L, rfl, rfl, hqc, rfl, hL, rfl, rfl⟩, ?_⟩
    show Steps p.tables e below _ ((({ U with heap := s₂.heap, slotsUsed := s₂.slotsUsed } : State).setVm s₂.vm).setTop { g with pc := g.pc + len₂, stack := v.toList ++ g.stack })
    rw [← hs₂]
    exact hsteps
  · obtain ⟨e2, q2, q3, q4, q5, q6⟩ := id hsm
    have e3 : s₂ = ({ (U.calling g mk a).setFrames s₂.frames with heap := s₂.heap, slotsUsed := s₂.slotsUsed } : State).setVm s₂.vm := by
      have : s₂ = ({ s₂ with vm := (U.calling g mk a).vm } : State).setVm s₂.vm := rfl
      rw [e2] at this
      exact this
    have hf₂ : s₂.frames = .throwing q :: .java g :: U.frames.tail := hend
    have hW' : U.WarmedH s₂.vm := hW₂
    have hs₂ : s₂ = ((({ U with heap := s₂.heap, slotsUsed := s₂.slotsUsed } : State).setVm s₂.vm).setTop g).pushFrame (.throwing q) := by
      refine e3.trans ?_
      rw [hf₂, State.calling_eq h.top, State.setFrames_setFrames, State.pushFrame, State.frames_setTop _ hr', State.setTop_of_frames _ hr', State.setFrames_setFrames, hr]
      rfl
    have hsame : U.sameButNew ({ U with heap := s₂.heap, slotsUsed := s₂.slotsUsed } : State) L mc ms := by
      refine ⟨?_, q2, q3, q4, q5, q6⟩
      obtain ⟨t, ht, -⟩ := State.frames_cons hr
      show ({ U with heap := s₂.heap, slotsUsed := s₂.slotsUsed } : State) = { U.setFrames U.frames with heap := s₂.heap, slotsUsed := s₂.slotsUsed }
      rw [State.setFrames_self ht]
    subst hg
    refine Or.inr ⟨q, ⟨(({ U with heap := s₂.heap, slotsUsed := s₂.slotsUsed } : State).setVm s₂.vm), Ls ++ L, c0 + mc, s0 + ms⟩,
      ⟨X.admits, X.cas, X.clock, X.frames, X.room, X.hears, X.method, X.code, (X.here.setHeapUsed s₂.heap s₂.slotsUsed).setVm hW'.alike, X.tail, State.WarmedH.trans X.warmed hW', X.limits, X.bytes, X.same.trans (hsame.setVm s.vm)⟩,
      ⟨g, mk, s₂, L, E, ce, rfl, rfl, hx, hce, hcv, hcl, rfl, hL, rfl, rfl⟩, ?_⟩
    show Steps p.tables e below _ (((({ U with heap := s₂.heap, slotsUsed := s₂.slotsUsed } : State).setVm s₂.vm).setTop g).pushFrame (.throwing q))
    rw [← hs₂]
    exact hsteps
end Payer
section Calls
variable {p : Program} {l : Launch} {e : Env} {R : Room} {s : State} {m : MethodId} {args : Array Value} {below : List Frame} {meth : Method} {c : Code} {T : State} {locs : List Loc} {cells slots : Nat}
theorem vx_callV (X : Stand p l e R s m args below meth c T locs cells slots) (hexec : p.tables.exec = Jvm.exec) {own C : String} {index : Nat} {y : MethodName} {bytes : ByteArray} {maxL : Nat} {ret : Option FieldType}
    (hown : s.vm.findClass own = some m.cls) (hlink : (Cond.methodLink own index y).before args s = true) (hinst : (Cond.instanceMethod y).before args s = true) (hsel : (Cond.selects C y y).before args s = true)
    (hcode : (Cond.code y bytes maxL ret).before args s = true) (hy : y.cls ≠ "java/lang/invoke/MethodHandle" ∧ y.cls ≠ "java/lang/invoke/VarHandle")
    {W9 : Nat} {Pre : Pt → Array Value → Prop} {Post : Pt → Array Value → Option Value → Pt → Prop} {PostX : Pt → Array Value → Addr → Pt → Prop} (hK : vx_Back l R p e below s args y 3 W9 Pre Post PostX)
    {b : Addr} {cellB : Cell} (hcell : T.heap[b]? = some cellB) (hobj : cellB.vm.isStatics = false) (hcls : s.vm.findClass C = some cellB.cls)
    {g : JFrame} (hg : g.method = m) (hsize : g.locals.size = c.maxLocals) {argsL rest : List Value} (hlen : ∀ sig, parseMethodDescriptor y.desc = some sig → argsL.length = sig.parameters.length)
    (hstack : g.stack = argsL.reverse ++ .ref b :: rest) (hW : 2 * g.monitorRoom + (rest.map fun v => v.category).sum ≤ W9) (hdg : decode c.code g.pc = .ok (.invokevirtual index, 3))
    (hpre : ∀ vm₁, s.WarmedH vm₁ → Pre ⟨T.setVm vm₁, locs, cells, slots⟩ (Value.ref b :: argsL).toArray) :
    (∃ (v : Option Value) (vm₁ : Vm) (B : Pt), s.WarmedH vm₁ ∧ Stand p l e R s m args below meth c B.U B.locs B.cells B.slots ∧ Post ⟨T.setVm vm₁, locs, cells, slots⟩ (Value.ref b :: argsL).toArray v B ∧
      ∀ target, Steps p.tables e below (B.U.setTop { g with pc := g.pc + 3, stack := v.toList ++ rest }) target → Steps p.tables e below (T.setTop g) target) ∨
    (∃ (q : Addr) (vm₁ : Vm) (B : Pt), s.WarmedH vm₁ ∧ Stand p l e R s m args below meth c B.U B.locs B.cells B.slots ∧ PostX ⟨T.setVm vm₁, locs, cells, slots⟩ (Value.ref b :: argsL).toArray q B ∧
      Steps p.tables e below (T.setTop g) ((B.U.setTop { g with stack := rest }).pushFrame (.throwing q))) := by
  obtain ⟨mk, methM, hnamed, hmethM, hstM, habM⟩ := Cond.instanceMethod_spec hinst
  obtain ⟨methM', cM, hmethM', -, -, -, -, -, -, hsigM⟩ := Cond.code_spec hnamed hcode
  cases hmethM.symm.trans hmethM'
  obtain ⟨c2, r2, m2, q1, q2, q3, q4, kP, hkP, hkPi⟩ := Cond.selects_spec hsel
  cases hcls.symm.trans q1
  cases (State.methodFound?_of_named hnamed hy).symm.trans q2
  cases hnamed.symm.trans q3
  have hselP : selectMethod e.platform s.vm cellB.cls mk = .method mk := by rw [Launch.admits_selectMethod X.admits]; exact q4
  obtain ⟨vm₁, X₁, hstep₁⟩ := X.invokevirtual hexec hown hlink hnamed hmethM hstM hkP hkPi hy (a := b) (cell := cellB) hcell
    (fun z h => by rw [h] at hobj; cases hobj) hselP hmethM habM hkP hkPi (g := g) hg (argsL := argsL) (rest := rest) (hlen _ hsigM) hstack hdg
  rcases hK m meth c ⟨T.setVm vm₁, locs, cells, slots⟩ { g with stack := rest } (.invokevirtual index) mk (Value.ref b :: argsL).toArray X₁ hg hsize hdg hW (X₁.named hnamed) (hpre vm₁ X₁.warmed) with ⟨v, B, X', hpost, hsteps⟩ | ⟨q, B, X', hpost, hsteps⟩
  · exact Or.inl ⟨v, vm₁, B, X₁.warmed, X', hpost, fun target h => hstep₁ _ fun acts => by rw [doInvoke_state]; exact hsteps.trans h⟩
  · exact Or.inr ⟨q, vm₁, B, X₁.warmed, X', hpost, hstep₁ _ fun acts => by rw [doInvoke_state]; exact hsteps⟩
theorem vx_callS (X : Stand p l e R s m args below meth c T locs cells slots) (hexec : p.tables.exec = Jvm.exec) {own : String} {index : Nat} {y : MethodName} {bytes : ByteArray} {maxL : Nat} {ret : Option FieldType}
    (hown : s.vm.findClass own = some m.cls) (hlink : (Cond.methodLink own index y).before args s = true) (hstat : (Cond.static y).before args s = true) (hinit : (Cond.initialized y.cls).before args s = true)
    (hcode : (Cond.code y bytes maxL ret).before args s = true) (hy : y.cls ≠ "java/lang/invoke/MethodHandle" ∧ y.cls ≠ "java/lang/invoke/VarHandle")
    {W9 : Nat} {Pre : Pt → Array Value → Prop} {Post : Pt → Array Value → Option Value → Pt → Prop} {PostX : Pt → Array Value → Addr → Pt → Prop} (hK : vx_Back l R p e below s args y 3 W9 Pre Post PostX)
    {g : JFrame} (hg : g.method = m) (hsize : g.locals.size = c.maxLocals) {argsL rest : List Value} (hlen : ∀ sig, parseMethodDescriptor y.desc = some sig → argsL.length = sig.parameters.length)
    (hstack : g.stack = argsL.reverse ++ rest) (hW : 2 * g.monitorRoom + (rest.map fun v => v.category).sum ≤ W9) (hdg : decode c.code g.pc = .ok (.invokestatic index, 3))
    (hpre : ∀ vm₁, s.WarmedH vm₁ → Pre ⟨T.setVm vm₁, locs, cells, slots⟩ argsL.toArray) :
    (∃ (v : Option Value) (vm₁ : Vm) (B : Pt), s.WarmedH vm₁ ∧ Stand p l e R s m args below meth c B.U B.locs B.cells B.slots ∧ Post ⟨T.setVm vm₁, locs, cells, slots⟩ argsL.toArray v B ∧
      ∀ target, Steps p.tables e below (B.U.setTop { g with pc := g.pc + 3, stack := v.toList ++ rest }) target → Steps p.tables e below (T.setTop g) target) ∨
    (∃ (q : Addr) (vm₁ : Vm) (B : Pt), s.WarmedH vm₁ ∧ Stand p l e R s m args below meth c B.U B.locs B.cells B.slots ∧ PostX ⟨T.setVm vm₁, locs, cells, slots⟩ argsL.toArray q B ∧
      Steps p.tables e below (T.setTop g) ((B.U.setTop { g with stack := rest }).pushFrame (.throwing q))) := by
  obtain ⟨mk, hnamed⟩ := Cond.code_named hcode
  obtain ⟨methM, cM, hmethM, -, -, -, -, -, -, hsigM⟩ := Cond.code_spec hnamed hcode
  have hstatic : methM.isStatic = true := Cond.static_spec hnamed hmethM hstat
  obtain ⟨kP, hkP, -⟩ := className_of_methodNamed hnamed
  have hinitP : kP.init = .initialized := Cond.initialized_spec (findClass_of_methodNamed hnamed) hkP hinit
  obtain ⟨vm₁, X₁, hstep₁⟩ := X.invokestatic hexec hown hlink hnamed hmethM hstatic hkP hinitP hy (g := g) hg (argsL := argsL) (rest := rest) (hlen _ hsigM) hstack hdg
  rcases hK m meth c ⟨T.setVm vm₁, locs, cells, slots⟩ { g with stack := rest } (.invokestatic index) mk argsL.toArray X₁ hg hsize hdg hW (X₁.named hnamed) (hpre vm₁ X₁.warmed) with ⟨v, B, X', hpost, hsteps⟩ | ⟨q, B, X', hpost, hsteps⟩
  · exact Or.inl ⟨v, vm₁, B, X₁.warmed, X', hpost, fun target h => hstep₁ _ fun acts => by rw [doInvoke_state]; exact hsteps.trans h⟩
  · exact Or.inr ⟨q, vm₁, B, X₁.warmed, X', hpost, hstep₁ _ fun acts => by rw [doInvoke_state]; exact hsteps⟩
end Calls
theorem vx_cls {s : State} {T : State} {vm₁ : Vm} {E : String} {k : ClassId} (hW : s.WarmedH vm₁) (h : (T.setVm vm₁).vm.findClass E = some k) : s.vm.findClass E = some k := by
  have h1 : vm₁.findClass E = some k := h
  rw [hW.alike.findClass] at h1
  exact h1
/-- the method's frame g, with q thrown over it -/
def vx_W (p : Program) (l : Launch) (e : Env) (R : Room) (s : State) (m : MethodId) (args : Array Value) (below : List Frame) (meth : Method) (c : Code) (H : Heap) (locs : List Loc) (cells slots : Nat) (Q : State → Prop) (g : JFrame) (q : Addr) : Prop :=
  ∀ T : State, T.heap = H → Stand p l e R s m args below meth c T locs cells slots → ∃ t, Steps p.tables e below ((T.setTop g).pushFrame (.throwing q)) t ∧ Q t
def vx_Run (p : Program) (l : Launch) (e : Env) (R : Room) (s : State) (m : MethodId) (args : Array Value) (below : List Frame) (meth : Method) (c : Code) (H : Heap) (locs : List Loc) (cells slots mc ms : Nat) (g : JFrame) (rest : List Value) (Qa : State → Outcome → State → Prop) (XC : String → State → State → Prop) (free : Addr → Prop) : Prop :=
  ∀ T : State, T.heap = H → Stand p l e R s m args below meth c T locs cells slots →
    (∃ (v : Option Value) (st₀ t T' : State) (L : List Loc), st₀.heap = H ∧ Stand p l e R s m args below meth c T' (locs ++ L) (cells + mc) (slots + ms) ∧ (∀ q ∈ L, free q.base) ∧ T'.heap = t.heap ∧ T'.vm = t.vm ∧ Qa st₀ (.returned v) t ∧
      Goes p e below T g T' { g with pc := g.pc + 3, stack := v.toList ++ rest }) ∨
    (∃ (q : Addr) (st₀ t T' : State) (L : List Loc) (E : String) (ce : Cell), st₀.heap = H ∧ Stand p l e R s m args below meth c T' (locs ++ L) (cells + mc) (slots + ms) ∧ (∀ z ∈ L, free z.base) ∧ T'.heap = t.heap ∧ T'.vm = t.vm ∧ XC E st₀ t ∧ t.heap[q]? = some ce ∧ ce.vm = .none ∧ s.vm.findClass E = some ce.cls ∧
      Steps p.tables e below (T.setTop g) ((T'.setTop { g with stack := rest }).pushFrame (.throwing q)))
def vx_X {S : Type} (px : S → Prop) (B : String → S → State → Prop) (A : Nat → Prop) : String → State → State → Prop := fun E st t => ∃ u : S, px u ∧ B E u t ∧ va_F A st t
section Runs
variable {p : Program} {l : Launch} {e : Env} {R : Room} {s : State} {m : MethodId} {args : Array Value} {below : List Frame} {meth : Method} {c : Code} {H : Heap} {locs : List Loc} {cells slots : Nat}
variable {y : MethodName} {bytes cc : ByteArray} {maxL nL mc ms n index : Nat} {ret : Option FieldType} {ws : List Cond} {rm : Room} {Pc : Array Value → State → Prop} {Qc : Array Value → State → Outcome → State → Prop} {XC : String → State → State → Prop} {free : Addr → Prop} {Ts : List Cond} {own C : String} {b : Addr} {As rest : List Value} {g : JFrame}
theorem vx_callBack (cb : CallB R s args own index y bytes maxL ret ws rm mc ms n) (hM : vx_Met l y ws rm Pc Qc XC mc ms free) (hbl : FrameBlind Pc) : vx_Back l R p e below s args y 3 8 (PreOf R mc ms Pc) (PostOf Qc mc ms free) (vx_Post XC mc ms free) := by
  obtain ⟨hrc, hrs, hfr, hlo, hws, hcw, -, hini, -⟩ := cb
  exact vx_back (bytes := bytes) (maxL := maxL) (ret := ret) hM hbl hrc hrs hfr hlo hws hcw (fun a' U hW => word_at hW (Or.inl (by first | rfl | simp [Cond.onTables, Cond.keeps, Cond.steady])) hini)
theorem vx_runV (S : CallFix p m c cc nL s args Ts own) (hM : vx_Met l y ws rm Pc Qc XC mc ms free) (cw : CallW R s args own C index y bytes maxL ret ws rm mc ms n) (hp : PreV s H C b Pc As)
    (hg : g.method = m) (hn : As.length = n) (hsize : g.locals.size = nL) (hstack : g.stack = As.reverse ++ .ref b :: rest) (hW : 2 * g.monitorRoom + (rest.map fun v => v.category).sum ≤ 8) (hdg : decode cc g.pc = .ok (.invokevirtual index, 3)) (hf : cells + mc ≤ R.cells ∧ slots + ms ≤ R.slots) :
    vx_Run p l e R s m args below meth c H locs cells slots mc ms g rest (Qc (Value.ref b :: As).toArray) XC free := by
  have hK : vx_Back l R p e below s args y 3 8 (PreOf R mc ms Pc) (PostOf Qc mc ms free) (vx_Post XC mc ms free) := vx_callBack cw.1 hM hp.1
  obtain ⟨⟨-, -, -, -, -, -, hcode, -, hy, hlen, hl⟩, hin, hse⟩ := cw
  obtain ⟨hx, hb, hml, ho, -⟩ := S
  obtain ⟨-, ⟨cellB, hcB, hoB, hclB⟩, hPc⟩ := hp
  intro T hT X
  rcases vx_callV X hx (C := C) (bytes := bytes) (maxL := maxL) (ret := ret) ho hl hin hse hcode hy hK (by rw [hT]; exact hcB) hoB hclB hg (hsize.trans hml.symm) (argsL := As) (rest := rest) (fun sig h => hn.trans (hlen sig h)) hstack hW (by rw [hb]; exact hdg)
    (fun vm₁ hW₁ => ⟨hf.1, hf.2, hPc (T.setVm vm₁) hT hW₁⟩) with ⟨v, vm₁, ⟨U', l2, c2, s2⟩, hW₁, X', ⟨g', mk, t, L, e1, e2, hq, h1, hL, h2, h3⟩, st⟩ | ⟨q, vm₁, ⟨U', l2, c2, s2⟩, hW₁, X', ⟨g', mk, t, L, E, ce, e1, e2, hq, hce, hcv, hcl, h1, hL, h2, h3⟩, st⟩
  · dsimp only [Pt.U, Pt.locs, Pt.cells, Pt.slots] at X' e1 e2 h1 h2 h3 st
    subst h1; subst h2; subst h3
    exact Or.inl ⟨v, (T.setVm vm₁).calling g' mk (Value.ref b :: As).toArray, t, U', L, hT, X', hL, e1, e2, hq, st⟩
  · dsimp only [Pt.U, Pt.locs, Pt.cells, Pt.slots] at X' e1 e2 h1 h2 h3 st hcl
    subst h1; subst h2; subst h3
    exact Or.inr ⟨q, (T.setVm vm₁).calling g' mk (Value.ref b :: As).toArray, t, U', L, E, ce, hT, X', hL, e1, e2, hq, hce, hcv, vx_cls hW₁ hcl, st⟩
theorem vx_runS (S : CallFix p m c cc nL s args Ts own) (hM : vx_Met l y ws rm Pc Qc XC mc ms free) (cw : CallB R s args own index y bytes maxL ret ws rm mc ms n ∧ (Cond.static y).before args s = true) (hp : PreS s H Pc As)
    (hg : g.method = m) (hn : As.length = n) (hsize : g.locals.size = nL) (hstack : g.stack = As.reverse ++ rest) (hW : 2 * g.monitorRoom + (rest.map fun v => v.category).sum ≤ 8) (hdg : decode cc g.pc = .ok (.invokestatic index, 3)) (hf : cells + mc ≤ R.cells ∧ slots + ms ≤ R.slots) :
    vx_Run p l e R s m args below meth c H locs cells slots mc ms g rest (Qc As.toArray) XC free := by
  have hK : vx_Back l R p e below s args y 3 8 (PreOf R mc ms Pc) (PostOf Qc mc ms free) (vx_Post XC mc ms free) := vx_callBack cw.1 hM hp.1
  obtain ⟨⟨-, -, -, -, -, -, hcode, hini, hy, hlen, hl⟩, hstt⟩ := cw
  obtain ⟨hx, hb, hml, ho, -⟩ := S
  intro T hT X
  rcases vx_callS X hx (bytes := bytes) (maxL := maxL) (ret := ret) ho hl hstt hini hcode hy hK hg (hsize.trans hml.symm) (argsL := As) (rest := rest) (fun sig h => hn.trans (hlen sig h)) hstack hW (by rw [hb]; exact hdg)
    (fun vm₁ hW₁ => ⟨hf.1, hf.2, hp.2 (T.setVm vm₁) hT hW₁⟩) with ⟨v, vm₁, ⟨U', l2, c2, s2⟩, hW₁, X', ⟨g', mk, t, L, e1, e2, hq, h1, hL, h2, h3⟩, st⟩ | ⟨q, vm₁, ⟨U', l2, c2, s2⟩, hW₁, X', ⟨g', mk, t, L, E, ce, e1, e2, hq, hce, hcv, hcl, h1, hL, h2, h3⟩, st⟩
  · dsimp only [Pt.U, Pt.locs, Pt.cells, Pt.slots] at X' e1 e2 h1 h2 h3 st
    subst h1; subst h2; subst h3
    exact Or.inl ⟨v, (T.setVm vm₁).calling g' mk As.toArray, t, U', L, hT, X', hL, e1, e2, hq, st⟩
  · dsimp only [Pt.U, Pt.locs, Pt.cells, Pt.slots] at X' e1 e2 h1 h2 h3 st hcl
    subst h1; subst h2; subst h3
    exact Or.inr ⟨q, (T.setVm vm₁).calling g' mk As.toArray, t, U', L, E, ce, hT, X', hL, e1, e2, hq, hce, hcv, vx_cls hW₁ hcl, st⟩
end Runs
section Rows
variable {p : Program} {l : Launch} {e : Env} {R : Room} {s : State} {m : MethodId} {args : Array Value} {below : List Frame} {meth : Method} {c : Code} {H : Heap} {locs : List Loc} {cells slots : Nat} {Q : State → Prop}
variable {mc ms : Nat} {free : Addr → Prop} {A0 A1 : Nat → Prop} {H0 : Heap} {a : Array Value} {pc : Nat} {ls : Array Slot} {st0 rest : List Value}
theorem vx_keep {st₀ t T' : State} {L : List Loc} (h0 : st₀.heap = H) (e1 : T'.heap = t.heap) (hS : va_S A0 H0 H locs) (hA : ∀ q, q < H.size → A1 q → A0 q) (hf : ∀ q, free q → A0 q) (hL : ∀ q ∈ L, free q.base) (hF : va_F A1 st₀ t) :
    H.size ≤ T'.heap.size ∧ (∀ q : Nat, q < H.size → ¬ A1 q → T'.heap[q]? = H[q]?) ∧ va_S A0 H0 T'.heap (locs ++ L) := by
  obtain ⟨hz, hk⟩ := hF
  rw [h0] at hz hk
  exact ⟨by rw [e1]; exact hz, fun q h1 h2 => by rw [e1]; exact hk q h1 h2,
    ⟨Nat.le_trans hS.1 (by rw [e1]; exact hz), fun q h1 h2 => by rw [e1, hk q (Nat.lt_of_lt_of_le h1 hS.1) (fun z => h2 (hA q (Nat.lt_of_lt_of_le h1 hS.1) z))]; exact hS.2.1 q h1 h2, fun q hq => by
      rcases List.mem_append.mp hq with h | h
      · exact hS.2.2 q h
      · exact hf _ (hL q h)⟩⟩
theorem vx_calli {S SX : Type} {post : Int32 → S → Prop} {px : SX → Prop} {B : S → State → Prop} {BX : String → SX → State → Prop} {AX : Nat → Prop} (hr : vx_Run p l e R s m args below meth c H locs cells slots mc ms (F0 m pc ls st0) rest (va_Qi post B A1 a) (vx_X px BX AX) free) (hS : va_S A0 H0 H locs) (hA : ∀ q, q < H.size → A1 q → A0 q) (hf : ∀ q, free q → A0 q) (hAX : ∀ q, q < H.size → AX q → A0 q)
    (kx : ∀ (E : String) (ce : Cell) (q9 : Addr) (u : SX) (t : State) (H1 : Heap) (locs1 : List Loc), t.heap = H1 → s.vm.Alike t.vm → px u → BX E u t → H.size ≤ H1.size → (∀ q : Nat, q < H.size → ¬ AX q → H1[q]? = H[q]?) → va_S A0 H0 H1 locs1 → H1[q9]? = some ce → ce.vm = .none → s.vm.findClass E = some ce.cls → vx_W p l e R s m args below meth c H1 locs1 (cells + mc) (slots + ms) Q (F0 m pc ls rest) q9)
    (kk : ∀ (r : Int32) (u : S) (t : State) (H1 : Heap) (locs1 : List Loc), t.heap = H1 → s.vm.Alike t.vm → post r u → B u t → H.size ≤ H1.size → (∀ q : Nat, q < H.size → ¬ A1 q → H1[q]? = H[q]?) → va_S A0 H0 H1 locs1 → W p l e R s m args below meth c H1 locs1 (cells + mc) (slots + ms) Q (F0 m (pc + 3) ls (.int r :: rest))) : W p l e R s m args below meth c H locs cells slots Q (F0 m pc ls st0) := by
  intro T hT X
  rcases hr T hT X with ⟨v, st₀, t, T', L, h0, X', hL, e1, e2, ⟨⟨r, u, hv, hp, hb⟩, hF⟩, st⟩ | ⟨q, st₀, t, T', L, E, ce, h0, X', hL, e1, e2, ⟨u, hp, hb, hF⟩, hce, hcv, hcl, st⟩
  · cases hv
    obtain ⟨k1, k2, k3⟩ := vx_keep h0 e1 hS hA hf hL hF
    obtain ⟨t2, a1, b1⟩ := kk r u t T'.heap (locs ++ L) e1.symm (by rw [← e2]; exact X'.warmed.alike) hp hb k1 k2 k3 T' rfl X'
    exact ⟨t2, st t2 a1, b1⟩
  · obtain ⟨k1, k2, k3⟩ := vx_keep h0 e1 hS hAX hf hL hF
    obtain ⟨t2, a1, b1⟩ := kx E ce q u t T'.heap (locs ++ L) e1.symm (by rw [← e2]; exact X'.warmed.alike) hp hb k1 k2 k3 (by rw [e1]; exact hce) hcv hcl T' rfl X'
    exact ⟨t2, st.trans a1, b1⟩
theorem vx_calll {S SX : Type} {post : Int64 → S → Prop} {px : SX → Prop} {B : S → State → Prop} {BX : String → SX → State → Prop} {AX : Nat → Prop} (hr : vx_Run p l e R s m args below meth c H locs cells slots mc ms (F0 m pc ls st0) rest (va_Ql post B A1 a) (vx_X px BX AX) free) (hS : va_S A0 H0 H locs) (hA : ∀ q, q < H.size → A1 q → A0 q) (hf : ∀ q, free q → A0 q) (hAX : ∀ q, q < H.size → AX q → A0 q)
    (kx : ∀ (E : String) (ce : Cell) (q9 : Addr) (u : SX) (t : State) (H1 : Heap) (locs1 : List Loc), t.heap = H1 → s.vm.Alike t.vm → px u → BX E u t → H.size ≤ H1.size → (∀ q : Nat, q < H.size → ¬ AX q → H1[q]? = H[q]?) → va_S A0 H0 H1 locs1 → H1[q9]? = some ce → ce.vm = .none → s.vm.findClass E = some ce.cls → vx_W p l e R s m args below meth c H1 locs1 (cells + mc) (slots + ms) Q (F0 m pc ls rest) q9)
    (kk : ∀ (r : Int64) (u : S) (t : State) (H1 : Heap) (locs1 : List Loc), t.heap = H1 → s.vm.Alike t.vm → post r u → B u t → H.size ≤ H1.size → (∀ q : Nat, q < H.size → ¬ A1 q → H1[q]? = H[q]?) → va_S A0 H0 H1 locs1 → W p l e R s m args below meth c H1 locs1 (cells + mc) (slots + ms) Q (F0 m (pc + 3) ls (.long r :: rest))) : W p l e R s m args below meth c H locs cells slots Q (F0 m pc ls st0) := by
  intro T hT X
  rcases hr T hT X with ⟨v, st₀, t, T', L, h0, X', hL, e1, e2, ⟨⟨r, u, hv, hp, hb⟩, hF⟩, st⟩ | ⟨q, st₀, t, T', L, E, ce, h0, X', hL, e1, e2, ⟨u, hp, hb, hF⟩, hce, hcv, hcl, st⟩
  · cases hv
    obtain ⟨k1, k2, k3⟩ := vx_keep h0 e1 hS hA hf hL hF
    obtain ⟨t2, a1, b1⟩ := kk r u t T'.heap (locs ++ L) e1.symm (by rw [← e2]; exact X'.warmed.alike) hp hb k1 k2 k3 T' rfl X'
    exact ⟨t2, st t2 a1, b1⟩
  · obtain ⟨k1, k2, k3⟩ := vx_keep h0 e1 hS hAX hf hL hF
    obtain ⟨t2, a1, b1⟩ := kx E ce q u t T'.heap (locs ++ L) e1.symm (by rw [← e2]; exact X'.warmed.alike) hp hb k1 k2 k3 (by rw [e1]; exact hce) hcv hcl T' rfl X'
    exact ⟨t2, st.trans a1, b1⟩
theorem vx_callf {S SX : Type} {post : UInt32 → S → Prop} {px : SX → Prop} {B : S → State → Prop} {BX : String → SX → State → Prop} {AX : Nat → Prop} (hr : vx_Run p l e R s m args below meth c H locs cells slots mc ms (F0 m pc ls st0) rest (va_Qf post B A1 a) (vx_X px BX AX) free) (hS : va_S A0 H0 H locs) (hA : ∀ q, q < H.size → A1 q → A0 q) (hf : ∀ q, free q → A0 q) (hAX : ∀ q, q < H.size → AX q → A0 q)
    (kx : ∀ (E : String) (ce : Cell) (q9 : Addr) (u : SX) (t : State) (H1 : Heap) (locs1 : List Loc), t.heap = H1 → s.vm.Alike t.vm → px u → BX E u t → H.size ≤ H1.size → (∀ q : Nat, q < H.size → ¬ AX q → H1[q]? = H[q]?) → va_S A0 H0 H1 locs1 → H1[q9]? = some ce → ce.vm = .none → s.vm.findClass E = some ce.cls → vx_W p l e R s m args below meth c H1 locs1 (cells + mc) (slots + ms) Q (F0 m pc ls rest) q9)
    (kk : ∀ (r : UInt32) (u : S) (t : State) (H1 : Heap) (locs1 : List Loc), t.heap = H1 → s.vm.Alike t.vm → post r u → B u t → H.size ≤ H1.size → (∀ q : Nat, q < H.size → ¬ A1 q → H1[q]? = H[q]?) → va_S A0 H0 H1 locs1 → W p l e R s m args below meth c H1 locs1 (cells + mc) (slots + ms) Q (F0 m (pc + 3) ls (.float r :: rest))) : W p l e R s m args below meth c H locs cells slots Q (F0 m pc ls st0) := by
  intro T hT X
  rcases hr T hT X with ⟨v, st₀, t, T', L, h0, X', hL, e1, e2, ⟨⟨r, u, hv, hp, hb⟩, hF⟩, st⟩ | ⟨q, st₀, t, T', L, E, ce, h0, X', hL, e1, e2, ⟨u, hp, hb, hF⟩, hce, hcv, hcl, st⟩
  · cases hv
    obtain ⟨k1, k2, k3⟩ := vx_keep h0 e1 hS hA hf hL hF
    obtain ⟨t2, a1, b1⟩ := kk r u t T'.heap (locs ++ L) e1.symm (by rw [← e2]; exact X'.warmed.alike) hp hb k1 k2 k3 T' rfl X'
    exact ⟨t2, st t2 a1, b1⟩
  · obtain ⟨k1, k2, k3⟩ := vx_keep h0 e1 hS hAX hf hL hF
    obtain ⟨t2, a1, b1⟩ := kx E ce q u t T'.heap (locs ++ L) e1.symm (by rw [← e2]; exact X'.warmed.alike) hp hb k1 k2 k3 (by rw [e1]; exact hce) hcv hcl T' rfl X'
    exact ⟨t2, st.trans a1, b1⟩
theorem vx_calld {S SX : Type} {post : UInt64 → S → Prop} {px : SX → Prop} {B : S → State → Prop} {BX : String → SX → State → Prop} {AX : Nat → Prop} (hr : vx_Run p l e R s m args below meth c H locs cells slots mc ms (F0 m pc ls st0) rest (va_Qd post B A1 a) (vx_X px BX AX) free) (hS : va_S A0 H0 H locs) (hA : ∀ q, q < H.size → A1 q → A0 q) (hf : ∀ q, free q → A0 q) (hAX : ∀ q, q < H.size → AX q → A0 q)
    (kx : ∀ (E : String) (ce : Cell) (q9 : Addr) (u : SX) (t : State) (H1 : Heap) (locs1 : List Loc), t.heap = H1 → s.vm.Alike t.vm → px u → BX E u t → H.size ≤ H1.size → (∀ q : Nat, q < H.size → ¬ AX q → H1[q]? = H[q]?) → va_S A0 H0 H1 locs1 → H1[q9]? = some ce → ce.vm = .none → s.vm.findClass E = some ce.cls → vx_W p l e R s m args below meth c H1 locs1 (cells + mc) (slots + ms) Q (F0 m pc ls rest) q9)
    (kk : ∀ (r : UInt64) (u : S) (t : State) (H1 : Heap) (locs1 : List Loc), t.heap = H1 → s.vm.Alike t.vm → post r u → B u t → H.size ≤ H1.size → (∀ q : Nat, q < H.size → ¬ A1 q → H1[q]? = H[q]?) → va_S A0 H0 H1 locs1 → W p l e R s m args below meth c H1 locs1 (cells + mc) (slots + ms) Q (F0 m (pc + 3) ls (.double r :: rest))) : W p l e R s m args below meth c H locs cells slots Q (F0 m pc ls st0) := by
  intro T hT X
  rcases hr T hT X with ⟨v, st₀, t, T', L, h0, X', hL, e1, e2, ⟨⟨r, u, hv, hp, hb⟩, hF⟩, st⟩ | ⟨q, st₀, t, T', L, E, ce, h0, X', hL, e1, e2, ⟨u, hp, hb, hF⟩, hce, hcv, hcl, st⟩
  · cases hv
    obtain ⟨k1, k2, k3⟩ := vx_keep h0 e1 hS hA hf hL hF
    obtain ⟨t2, a1, b1⟩ := kk r u t T'.heap (locs ++ L) e1.symm (by rw [← e2]; exact X'.warmed.alike) hp hb k1 k2 k3 T' rfl X'
    exact ⟨t2, st t2 a1, b1⟩
  · obtain ⟨k1, k2, k3⟩ := vx_keep h0 e1 hS hAX hf hL hF
    obtain ⟨t2, a1, b1⟩ := kx E ce q u t T'.heap (locs ++ L) e1.symm (by rw [← e2]; exact X'.warmed.alike) hp hb k1 k2 k3 (by rw [e1]; exact hce) hcv hcl T' rfl X'
    exact ⟨t2, st.trans a1, b1⟩
theorem vx_callv {S SX : Type} {post : S → Prop} {px : SX → Prop} {B : S → State → Prop} {BX : String → SX → State → Prop} {AX : Nat → Prop} (hr : vx_Run p l e R s m args below meth c H locs cells slots mc ms (F0 m pc ls st0) rest (va_Qv post B A1 a) (vx_X px BX AX) free) (hS : va_S A0 H0 H locs) (hA : ∀ q, q < H.size → A1 q → A0 q) (hf : ∀ q, free q → A0 q) (hAX : ∀ q, q < H.size → AX q → A0 q)
    (kx : ∀ (E : String) (ce : Cell) (q9 : Addr) (u : SX) (t : State) (H1 : Heap) (locs1 : List Loc), t.heap = H1 → s.vm.Alike t.vm → px u → BX E u t → H.size ≤ H1.size → (∀ q : Nat, q < H.size → ¬ AX q → H1[q]? = H[q]?) → va_S A0 H0 H1 locs1 → H1[q9]? = some ce → ce.vm = .none → s.vm.findClass E = some ce.cls → vx_W p l e R s m args below meth c H1 locs1 (cells + mc) (slots + ms) Q (F0 m pc ls rest) q9)
    (kk : ∀ (u : S) (t : State) (H1 : Heap) (locs1 : List Loc), t.heap = H1 → s.vm.Alike t.vm → post u → B u t → H.size ≤ H1.size → (∀ q : Nat, q < H.size → ¬ A1 q → H1[q]? = H[q]?) → va_S A0 H0 H1 locs1 → W p l e R s m args below meth c H1 locs1 (cells + mc) (slots + ms) Q (F0 m (pc + 3) ls (rest))) : W p l e R s m args below meth c H locs cells slots Q (F0 m pc ls st0) := by
  intro T hT X
  rcases hr T hT X with ⟨v, st₀, t, T', L, h0, X', hL, e1, e2, ⟨⟨u, hv, hp, hb⟩, hF⟩, st⟩ | ⟨q, st₀, t, T', L, E, ce, h0, X', hL, e1, e2, ⟨u, hp, hb, hF⟩, hce, hcv, hcl, st⟩
  · cases hv
    obtain ⟨k1, k2, k3⟩ := vx_keep h0 e1 hS hA hf hL hF
    obtain ⟨t2, a1, b1⟩ := kk u t T'.heap (locs ++ L) e1.symm (by rw [← e2]; exact X'.warmed.alike) hp hb k1 k2 k3 T' rfl X'
    exact ⟨t2, st t2 a1, b1⟩
  · obtain ⟨k1, k2, k3⟩ := vx_keep h0 e1 hS hAX hf hL hF
    obtain ⟨t2, a1, b1⟩ := kx E ce q u t T'.heap (locs ++ L) e1.symm (by rw [← e2]; exact X'.warmed.alike) hp hb k1 k2 k3 (by rw [e1]; exact hce) hcv hcl T' rfl X'
    exact ⟨t2, st.trans a1, b1⟩
/-- caught by the row x of this method's table; the rows ahead don't take it -/
theorem vx_catch {own name : String} {E : String} {ce : Cell} {q : Addr} (hown : s.vm.findClass own = some m.cls) (pre : List ExceptionTableEntry) (x : ExceptionTableEntry) (suf : List ExceptionTableEntry) (hsplit : c.exceptionTable.toList = pre ++ x :: suf)
    (hpass : ∀ z ∈ pre, covers z pc = false ∨ (z.catchType ≠ 0 ∧ ∃ nm : String, (Cond.classLink own z.catchType nm).before args s = true ∧ va_Nc E nm s)) (hx : covers x pc = true) (h0 : x.catchType ≠ 0)
    (hlink : (Cond.classLink own x.catchType name).before args s = true) (hcast : (Cond.castable E name).before args s = true) (hcell : H[q]? = some ce) (hv : ce.vm = .none) (hcl : s.vm.findClass E = some ce.cls)
    (kk : W p l e R s m args below meth c H locs cells slots Q (F0 m x.handlerPc ls [.ref q])) : vx_W p l e R s m args below meth c H locs cells slots Q (F0 m pc ls rest) q := by
  intro T hT X
  have hpl : e.platform.magicAccessors = ({} : Platform).magicAccessors := by rw [X.admits.platform]
  obtain ⟨c3, c4, hc3, hc4, hasg⟩ := Cond.castable_spec hcast
  cases Option.some.inj (hc3.symm.trans hcl)
  obtain ⟨c5, hc5, hcl5⟩ := Cond.classLink_spec hown hlink e.platform hpl
  cases Option.some.inj (hc4.symm.trans hc5)
  obtain ⟨vm', X', st⟩ := X.thenCaughtThrough q (g := F0 m pc ls rest) rfl (Steps.refl _) (by rw [hT]; exact hcell) (by rw [hv]; rfl) (by obtain ⟨k9, h9, -⟩ := Vm.findClass_spec hcl; exact ⟨k9, h9⟩) pre x suf hsplit
    (fun z hz => by
      rcases hpass z hz with h | ⟨hz0, nm, hl1, hn1⟩
      · exact Or.inl h
      · obtain ⟨c6, hc6, hcl6⟩ := Cond.classLink_spec hown hl1 e.platform hpl
        obtain ⟨a8, b8, h1, h2, h3⟩ := hn1
        cases Option.some.inj (h1.symm.trans hcl)
        cases Option.some.inj (h2.symm.trans hc6)
        exact Or.inr ⟨hz0, _, hcl6, h3⟩) hx (Or.inr ⟨h0, c4, hcl5, hasg⟩)
  obtain ⟨t, a1, b1⟩ := kk (T.setVm vm') hT X'
  exact ⟨t, st.trans a1, b1⟩
end Rows
section Ends
variable {p : Program} {l : Launch} {e : Env} {R : Room} {s : State} {m : MethodId} {args : Array Value} {below : List Frame} {meth : Method} {c : Code} {H : Heap} {locs : List Loc} {cells slots : Nat} {Q : State → Prop}
variable {mc ms : Nat} {free : Addr → Prop} {A0 A1 : Nat → Prop} {H0 : Heap} {a : Array Value} {ls : Array Slot} {st0 rest : List Value}
variable {Qc : Array Value → State → Outcome → State → Prop} {XC : String → State → State → Prop}
/-- what a body that may throw owes at its end -/
def vx_MQ (below : List Frame) (Qc : Array Value → State → Outcome → State → Prop) (XC : String → State → State → Prop) (a : Array Value) (s : State) (mc ms : Nat) (free : Addr → Prop) : State → Prop := fun t =>
  ∃ o, t.status = .running ∧ Ended t below o ∧ vx_Q Qc XC mc ms free a s o t
theorem vx_ret {g : JFrame} {mc ms : Nat} (k : W p l e R s m args below meth c H locs cells slots (MQ below Qc args s mc ms free) g) : W p l e R s m args below meth c H locs cells slots (vx_MQ below Qc XC args s mc ms free) g := by
  intro T hT X
  obtain ⟨t, a1, o, b1, b2, b3, b4⟩ := k T hT X
  exact ⟨t, a1, o, b1, b2, Or.inl ⟨b3, b4⟩⟩
/-- not caught here: it goes on to the caller -/
theorem vx_widen {g : JFrame} {q : Addr} {k n : Nat} (h1 : cells ≤ k) (h2 : slots ≤ n) (kk : vx_W p l e R s m args below meth c H locs k n Q g q) : vx_W p l e R s m args below meth c H locs cells slots Q g q := fun T hT X => kk T hT (stand_widen X h1 h2)
theorem vx_out {pc : Nat} {E : String} {ce : Cell} {q : Addr} {mc ms : Nat} (hout : ∀ x ∈ c.exceptionTable.toList, covers x pc = false) (hlocks : meth.locks = false) (hcell : H[q]? = some ce) (hv : ce.vm = .none) (hcl : s.vm.findClass E = some ce.cls)
    (hx : ∀ t : State, t.heap = H → s.vm.Alike t.vm → XC E s t) (hf : ∀ z ∈ locs, free z.base) (hc : cells ≤ mc) (hs : slots ≤ ms) :
    vx_W p l e R s m args below meth c H locs cells slots (vx_MQ below Qc XC args s mc ms free) (F0 m pc ls rest) q := by
  intro T hT X
  obtain ⟨st1, hrun, hend, hW, hsm⟩ := X.leaveThrown q (g := F0 m pc ls rest) rfl rfl rfl hout hlocks
  have hcell9 : (T.setFrames (.throwing q :: below)).heap[q]? = some ce := by
    show T.heap[q]? = some ce
    rw [hT]; exact hcell
  exact ⟨_, st1, .threw q, hrun, hend, Or.inr ⟨q, rfl, E, ce, locs, hx _ hT hW.alike, hcell9, hv, hcl, hW, hsm.mono hc hs, hf⟩⟩
theorem vx_frame {U : State} {k n : Nat} (h : s.sameButNew ({ U with vm := s.vm } : State) locs k n) : s.heap.size ≤ U.heap.size ∧ ∀ q : Nat, q < s.heap.size → (∀ z ∈ locs, z.base ≠ q) → U.heap[q]? = s.heap[q]? := by
  obtain ⟨-, h2, -, -, -, h6⟩ := h
  refine ⟨h2, fun q hq hz => ?_⟩
  obtain ⟨c9, e1, e2, e3, e4⟩ := h6 q _ (Array.getElem?_eq_getElem hq)
  have hs : c9.slots = (s.heap[q]).slots := Array.ext_getElem? fun i => e4 i fun hm => hz _ hm rfl
  have h9 : c9 = s.heap[q] := by
    rw [hs] at e2
    exact e2
  have e5 : U.heap[q]? = some c9 := e1
  rw [e5, h9, Array.getElem?_eq_getElem hq]
/-- the words of a throw but the four that speak of the heap -/
def vx_no (w : Cond) : Bool := decide (w ≠ .isRef (.static Bundle.tN "UNASSIGNED_STACK" Bundle.steD)) && decide (w ≠ .isRef (.static Bundle.tN "SUPPRESSED_SENTINEL" Bundle.listD)) && decide (w ≠ .laysStatic Bundle.tN "UNASSIGNED_STACK" Bundle.steD) && decide (w ≠ .laysStatic Bundle.tN "SUPPRESSED_SENTINEL" Bundle.listD)
def vx_at0 (own : String) (ic : Nat) (X : String) (names : List String) : List Cond := (Bundle.ownAtoms0 own ic X names).filter vx_no
def vx_atS (own : String) (ic : Nat) (X : String) (names : List String) : List Cond := (Bundle.ownAtoms own ic X names).filter vx_no
/-- a word that the tables alone decide, or a good one -/
def vx_ot (w : Cond) : Bool := w.onTables || goodWord w
theorem vx_ot_at {args a' : Array Value} {s U : State} {w : Cond} (hW : s.WarmedH U.vm) (hvm : s.vm = U.vm) (hg : vx_ot w = true) (h : w.before args s = true) : w.before a' U = true := by
  simp only [vx_ot, Bool.or_eq_true] at hg
  rcases hg with hg | hg
  · exact va_tabs hg hvm h
  · exact word_at hW (good_of_word hg) h
/-- a list's words: the good ones out of the method's own list, the others by premises of their own -/
theorem vx_hat {args : Array Value} {s : State} {L B : List Cond} (h1 : ∀ w ∈ L.filter goodWord, w.before args s = true) (h2 : ∀ w ∈ L.filter (fun w => !goodWord w), w ∈ B) (h3 : ∀ w ∈ B, w.before args s = true) : ∀ w ∈ L, w.before args s = true := by
  intro w hw
  by_cases g : goodWord w = true
  · exact h1 w (List.mem_filter.mpr ⟨hw, g⟩)
  · refine h3 w (h2 w (List.mem_filter.mpr ⟨hw, ?_⟩))
    show (!goodWord w) = true
    cases hgw : goodWord w
    · rfl
    · exact absurd hgw g
theorem vx_c {args : Array Value} {s : State} {w : Cond} {B : List Cond} (h : w.before args s = true) (t : ∀ w ∈ B, w.before args s = true) : ∀ w' ∈ w :: B, w'.before args s = true := fun w' h' => (List.mem_cons.mp h').elim (fun e => by rw [e]; exact h) (t w')
theorem vx_n {args : Array Value} {s : State} : ∀ w ∈ ([] : List Cond), w.before args s = true := fun _ h => nomatch h
theorem vx_own {args : Array Value} {s : State} {L : List Cond} (h1 : ∀ w ∈ L.filter vx_no, w.before args s = true)
    (hU : (Cond.isRef (.static Bundle.tN "UNASSIGNED_STACK" Bundle.steD)).before args s = true) (hN : (Cond.isRef (.static Bundle.tN "SUPPRESSED_SENTINEL" Bundle.listD)).before args s = true)
    (lU : (Cond.laysStatic Bundle.tN "UNASSIGNED_STACK" Bundle.steD).before args s = true) (lN : (Cond.laysStatic Bundle.tN "SUPPRESSED_SENTINEL" Bundle.listD).before args s = true) : ∀ w ∈ L, w.before args s = true := by
  intro w hw
  by_cases e1 : w = .isRef (.static Bundle.tN "UNASSIGNED_STACK" Bundle.steD)
  · rw [e1]; exact hU
  · by_cases e2 : w = .isRef (.static Bundle.tN "SUPPRESSED_SENTINEL" Bundle.listD)
    · rw [e2]; exact hN
    · by_cases e3 : w = .laysStatic Bundle.tN "UNASSIGNED_STACK" Bundle.steD
      · rw [e3]; exact lU
      · by_cases e4 : w = .laysStatic Bundle.tN "SUPPRESSED_SENTINEL" Bundle.listD
        · rw [e4]; exact lN
        · exact h1 w (List.mem_filter.mpr ⟨hw, by unfold vx_no; rw [decide_eq_true e1, decide_eq_true e2, decide_eq_true e3, decide_eq_true e4]; rfl⟩)
/-- where a static field lies, its class's statics cell in H -/
def vx_L (C n d : String) (A : Nat → Prop) (U : State) (H : Heap) : Prop := ∃ (c : ClassId) (k : Class) (i : Nat) (f : Field) (a : Nat) (cell : Cell), U.vm.findClass C = some c ∧ U.fieldFound? C n d = some (c, k, i, f) ∧ f.isStatic = true ∧ k.statics = some a ∧ H[a]? = some cell ∧ cell.vm.isStatics = true ∧ cell.cls = c ∧ f.slot < cell.slots.size ∧ k.staticTypes[f.slot]? = some f.type ∧ ¬ A a
theorem vx_L.moved {C n d : String} {A : Nat → Prop} {u U : State} {H : Heap} (hvm : u.vm.Alike U.vm) (h : vx_L C n d A u H) : vx_L C n d A U H := by
  obtain ⟨c, k, i, f, a, cell, h1, h2, h3, h4, h5, h6, h7, h8, h9, h10⟩ := h
  obtain ⟨k', hi', he⟩ := State.fieldFound?_setVm hvm h2
  exact ⟨c, k', i, f, a, cell, by rw [hvm.findClass]; exact h1, hi', h3, by rw [he]; exact h4, h5, h6, h7, h8, by rw [he]; exact h9, h10⟩
theorem vx_L.kept {C n d : String} {A : Nat → Prop} {U : State} {H H1 : Heap} (h : vx_L C n d A U H) (hq : ∀ a : Nat, a < H.size → ¬ A a → H1[a]? = H[a]?) : vx_L C n d A U H1 := by
  obtain ⟨c, k, i, f, a, cell, h1, h2, h3, h4, h5, h6, h7, h8, h9, h10⟩ := h
  exact ⟨c, k, i, f, a, cell, h1, h2, h3, h4, by rw [hq a (Array.getElem?_eq_some_iff.mp h5).1 h10]; exact h5, h6, h7, h8, h9, h10⟩
theorem vx_L.narrow {C n d : String} {A B : Nat → Prop} {U : State} {H : Heap} (h : vx_L C n d A U H) (hAB : ∀ q, B q → A q) : vx_L C n d B U H := by
  obtain ⟨c, k, i, f, a, cell, h1, h2, h3, h4, h5, h6, h7, h8, h9, h10⟩ := h
  exact ⟨c, k, i, f, a, cell, h1, h2, h3, h4, h5, h6, h7, h8, h9, fun z => h10 (hAB _ z)⟩
theorem vx_L.word {C n d : String} {A : Nat → Prop} {s : State} {args : Array Value} (h : vx_L C n d A s s.heap) : (Cond.laysStatic C n d).before args s = true := by
  obtain ⟨c, k, i, f, a, cell, h1, h2, h3, h4, h5, h6, h7, h8, h9, -⟩ := h
  show (Cond.laysStatic C n d).holds args s none s [] = true
  exact Cond.laysStatic_of h1 h2 h3 h4 h5 h6 h7 h8 h9
/-- .. and what it holds: null or some reference -/
def vx_Zq (C n d : String) (A : Nat → Prop) (U : State) (H : Heap) : Prop := va_Zq C n d A U H ∧ vx_L C n d A U H
theorem vx_Zq.moved {C n d : String} {A : Nat → Prop} {u U : State} {H : Heap} (hvm : u.vm.Alike U.vm) (h : vx_Zq C n d A u H) : vx_Zq C n d A U H := ⟨va_Zq.moved hvm h.1, vx_L.moved hvm h.2⟩
theorem vx_Zq.kept {C n d : String} {A : Nat → Prop} {U : State} {H H1 : Heap} (h : vx_Zq C n d A U H) (hq : ∀ a : Nat, a < H.size → ¬ A a → H1[a]? = H[a]?) : vx_Zq C n d A U H1 := ⟨va_Zq.kept h.1 hq, vx_L.kept h.2 hq⟩
theorem vx_Zq.narrow {C n d : String} {A B : Nat → Prop} {U : State} {H : Heap} (h : vx_Zq C n d A U H) (hAB : ∀ q, B q → A q) : vx_Zq C n d B U H := ⟨va_Zq.narrow h.1 hAB, vx_L.narrow h.2 hAB⟩
theorem vx_Zqof {args : Array Value} {s : State} {C n d : String} {A : Nat → Prop} (hl : (Cond.laysStatic C n d).before args s = true) (hini : (Cond.initialized C).before args s = true) (h : (Cond.isRef (.static C n d)).before args s = true) (hA : ∀ a : Nat, a < s.heap.size → ¬ A a) : vx_Zq C n d A s s.heap := by
  refine ⟨va_Zqof hl hini h hA, ?_⟩
  obtain ⟨c, k, i, f, a, cell, h1, h2, h3, h4, h5, h6, h7, h8, h9⟩ := Cond.laysStatic_spec hl
  exact ⟨c, k, i, f, a, cell, h1, h2, h3, h4, h5, h6, h7, h8, h9, hA a (Array.getElem?_eq_some_iff.mp h5).1⟩
theorem vx_isRef {C n d : String} {v : Value} {A : Nat → Prop} {s : State} {args : Array Value} (h : va_Z C n d v A s s.heap) (hv : v.isRef = true) : (Cond.isRef (.static C n d)).before args s = true := by
  obtain ⟨cf, kf, fi, f, a, cell, h1, h2, h3, h4, h5, h6, h7, -⟩ := h
  have he : (Term.static C n d).eval args s none [] s = some v := by
    simp [Term.eval, State.fieldNamed?, h1, h2, h4, h5, h6, h7]
  simp only [Cond.before, Cond.holds, Cond.value, he]
  cases v <;> simp_all [Value.isRef]
theorem vx_isRefq {C n d : String} {A : Nat → Prop} {s : State} {args : Array Value} (h : va_Zq C n d A s s.heap) : (Cond.isRef (.static C n d)).before args s = true := by
  rcases h with h | ⟨t, h⟩
  · exact vx_isRef h rfl
  · exact vx_isRef h rfl
/-- the same frame, seen from here: as if the method were called anew in this heap -/
theorem vx_rebase {T : State} (X : Stand p l e R s m args below meth c T locs cells slots) {R' : Room} (hf : R'.frames ≤ R.frames) (hl : R'.locals ≤ R.locals) (hc : cells + R'.cells ≤ R.cells) (hs : slots + R'.slots ≤ R.slots) :
    Stand p l e R' ((T.setVm s.vm).setFrames (.invoking m args :: below)) m args below meth c T [] 0 0 := by
  have htop : (T.setVm s.vm).topJava?.isSome := X.here.top
  have hF : ((T.setVm s.vm).setFrames (.invoking m args :: below)).frames = .invoking m args :: below := State.frames_setFrames _ (State.cur_lt_of_top htop)
  obtain ⟨g₀, hg0⟩ := Option.isSome_iff_exists.mp htop
  obtain ⟨r, hr⟩ := State.topJava?_eq_some.mp hg0
  have hl9 : e.platform.stackLimits (T.setVm s.vm).me = e.platform.stackLimits s.me := X.limits
  have hb9 : (T.setVm s.vm).me.stackBytes = s.me.stackBytes := X.bytes
  refine ⟨X.admits, X.cas, X.clock, hF, ?_, X.hears, X.method, X.code, X.here, X.tail, X.warmed, ?_, ?_, ?_⟩
  · have h := X.room
    have hU : ((T.setVm s.vm).setFrames (.invoking m args :: below)).localsInUse = s.localsInUse := by
      rw [State.localsInUse_invoking hF (meth := meth) (c := c) X.method X.code, State.localsInUse_invoking X.frames X.method X.code]
    simp only [State.hasRoom, Bool.and_eq_true, decide_eq_true_eq] at h ⊢
    obtain ⟨⟨⟨⟨h1, h2, h3, h4, h5, h6⟩, h7⟩, h8⟩, h9⟩ := h
    rw [X.frames, List.length_cons] at h2 h3
    have q1 := X.heapSize
    have q2 := X.used
    simp only [hF, hU, List.length_cons, State.stackLimits_setFrames, State.stackBytes_setFrames, hl9, hb9]
    refine ⟨⟨⟨⟨by omega, by omega, by omega, by omega, by omega, h6⟩, ?_⟩, ?_⟩, X.book⟩
    · show T.heap.size + R'.cells ≤ e.platform.maxCells
      omega
    · show T.slotsUsed + R'.slots ≤ e.platform.maxSlots
      omega
  · rw [State.stackLimits_setFrames]; rfl
  · rw [State.stackBytes_setFrames]; rfl
  · refine ⟨?_, Nat.le_refl _, Nat.le_refl _, ?_, ?_, fun a c9 h9 => ⟨c9, h9, rfl, rfl, fun _ _ => rfl⟩⟩
    · obtain ⟨t, ht, -⟩ := State.frames_cons hr
      show T.setVm s.vm = { ((T.setVm s.vm).setFrames (.invoking m args :: below)).setFrames (T.setVm s.vm).frames with heap := T.heap, slotsUsed := T.slotsUsed }
      rw [State.setFrames_setFrames, State.setFrames_self ht]
      rfl
    · show T.slotsUsed = T.slotsUsed + ((T.heap.toList.drop T.heap.size).map (·.slots.size)).sum
      rw [List.drop_eq_nil_of_le (Nat.le_of_eq Array.length_toList)]
      rfl
    · show ((T.heap.toList.drop T.heap.size).map (·.slots.size)).sum ≤ 0
      rw [List.drop_eq_nil_of_le (Nat.le_of_eq Array.length_toList)]
      exact Nat.le_refl _
/-- 'throw new E()': new; dup; invokespecial; athrow -/
theorem vx_throw0 {cc : ByteArray} {pc : Nat} (hexec : p.tables.exec = Jvm.exec) (hb : c.code = cc) (hl : l.stackTraces = false) {own cls : String} {names : List String} {ik ic mc ms : Nat} {A : Nat → Prop}
    (hown : s.vm.findClass own = some m.cls) (hcls : Bundle.fit cls = true) (hnames : ∀ n ∈ names, Bundle.fit n = true)
    (hk : (Cond.classLink own ik cls).before args s = true) (hini : (Cond.initialized cls).before args s = true) (hat : ∀ w ∈ vx_at0 own ic cls names, w.before args s = true)
    (hgood : ∀ w ∈ Cond.classLink own ik cls :: Cond.initialized cls :: vx_at0 own ic cls names, vx_ot w = true)
    (hU : vx_Zq Bundle.tN "UNASSIGNED_STACK" Bundle.steD A s s.heap) (hN : vx_Zq Bundle.tN "SUPPRESSED_SENTINEL" Bundle.listD A s s.heap) (hS : va_S A s.heap H locs) (hsize : ls.size = c.maxLocals)
    (d0 : decode cc pc = .ok (.new ik, 3)) (d3 : decode cc (pc + 3) = .ok (.dup, 1)) (d4 : decode cc (pc + 4) = .ok (.invokespecial ic, 3)) (d7 : decode cc (pc + 7) = .ok (.athrow, 1))
    (hout : ∀ x ∈ c.exceptionTable.toList, covers x (pc + 7) = false)
    (hRframes : names.length + 3 < R.frames) (hRlocals : (rest.map fun v => v.category).sum + (13 * (names.length + 1) + 42) ≤ R.locals) (hRcells : cells + 1 ≤ R.cells) (hRslots : slots + 6 ≤ R.slots) (hlocks : meth.locks = false)
    (hx : ∀ t : State, s.vm.Alike t.vm → H.size ≤ t.heap.size → (∀ q : Nat, q < H.size → t.heap[q]? = H[q]?) → XC cls s t)
    (hf : ∀ z ∈ locs, free z.base) (hc : cells + 1 ≤ mc) (hs : slots + 6 ≤ ms) :
    W p l e R s m args below meth c H locs cells slots (vx_MQ below Qc XC args s mc ms free) (F0 m pc ls rest) := by
  intro T hT X
  have htr : e.platform.stackTraces = false := (show e.platform.stackTraces = l.stackTraces by rw [X.admits.platform]).trans hl
  have Y := vx_rebase X (R' := { frames := R.frames, locals := R.locals, cells := 1, slots := 6 }) (Nat.le_refl _) (Nat.le_refl _) hRcells hRslots
  obtain ⟨s', hA⟩ : ∃ z, z = (T.setVm s.vm).setFrames (.invoking m args :: below) := ⟨_, rfl⟩
  rw [← hA] at Y
  have hvm : s'.vm = s.vm := by rw [hA]; rfl
  have hhp : s'.heap = H := by rw [hA]; exact hT
  have hW0 : s.WarmedH s'.vm := by rw [hvm]; exact State.WarmedH.refl s
  have hat' : ∀ w ∈ vx_at0 own ic cls names, w.before args s' = true := fun w hw => vx_ot_at hW0 hvm.symm (hgood w (List.mem_cons_of_mem _ (List.mem_cons_of_mem _ hw))) (hat w hw)
  have hk' : (Cond.classLink own ik cls).before args s' = true := vx_ot_at hW0 hvm.symm (hgood _ List.mem_cons_self) hk
  have hini' : (Cond.initialized cls).before args s' = true := vx_ot_at hW0 hvm.symm (hgood _ (List.mem_cons_of_mem _ List.mem_cons_self)) hini
  have hU' : vx_Zq Bundle.tN "UNASSIGNED_STACK" Bundle.steD A s' s'.heap := by rw [hhp]; exact vx_Zq.moved hW0.alike (hU.kept hS.2.1)
  have hN' : vx_Zq Bundle.tN "SUPPRESSED_SENTINEL" Bundle.listD A s' s'.heap := by rw [hhp]; exact vx_Zq.moved hW0.alike (hN.kept hS.2.1)
  have h : ∀ w ∈ Bundle.ownAtoms0 own ic cls names, w.before args s' = true := vx_own hat' (vx_isRefq hU'.1) (vx_isRefq hN'.1) hU'.2.word hN'.2.word
  have hown' : s'.vm.findClass own = some m.cls := by rw [hvm]; exact hown
  have hins : (Cond.instantiable cls 6).before args s' = true := h _ (by simp [Bundle.ownAtoms0])
  obtain ⟨vm₁, cX, kX, hfX, hkX, -, -, X₁, st1⟩ := Y.newCold hexec (own := own) (C := cls) (index := ik) (n := 6) hown' hk' hins hini'
    (g := F0 m pc ls rest) rfl (by rw [hb]; exact d0) (Nat.le_refl _) (Nat.le_refl _)
  generalize hT1 : (T.setVm vm₁).pushCell { cls := cX, slots := kX.instanceTypes.map defaultValue, vm := .none } = T1 at X₁ st1
  have hcat : (Value.ref T.heap.size).category = 1 := rfl
  have hcellA : T1.heap[T.heap.size]? = some (freshCell cX kX) := by rw [← hT1]; exact State.heap_pushCell_size _ _
  have d3' : decode c.code (pc + 3) = .ok (.dup, 1) := by rw [hb]; exact d3
  obtain ⟨U, hsteps, hrun, hend, hW, hsame, ce, hce, hO⟩ := X₁.ctorThrow0 hexec htr (own := own) (cls := cls) (names := names) (ic := ic) hown' hcls hnames h (fun x hx => nomatch hx) hfX hkX hcellA (by rw [hhp, hT]; exact Nat.le_refl _)
    (g := { method := m, pc := pc + 4, locals := ls, stack := .ref T.heap.size :: .ref T.heap.size :: rest, locked := none }) rfl hsize rfl rfl (rest := rest) rfl
    (by rw [hb]; exact d4) (by rw [hb]; exact d7) hout hRframes (by simp only [List.map_cons, List.sum_cons, hcat]; omega) hlocks
  obtain ⟨f1, f2⟩ := vx_frame hsame
  rw [hhp] at f1 f2
  have hWs : s.WarmedH U.vm := State.WarmedH.trans hW0 hW
  have hcl : s.vm.findClass cls = some ce.cls := by
    have h9 := hO.cls
    rw [hvm] at h9
    exact h9
  have hall : s.sameButNew ({ U with vm := s.vm } : State) locs mc ms := by
    subst hA
    obtain ⟨e1, e2⟩ := hsame
    rw [State.setFrames_setFrames] at e1
    have h2 : (T.setVm s.vm).sameButNew ({ U with vm := s.vm } : State) [] (0 + 1) (0 + 6) := ⟨e1, e2⟩
    have h3 := X.same.trans h2
    rw [List.append_nil] at h3
    exact h3.mono hc hs
  refine ⟨U, ?_, .threw T.heap.size, hrun, hend, Or.inr ⟨T.heap.size, rfl, cls, ce, locs, hx U hWs.alike f1 (fun q hq => f2 q hq (fun z hz => nomatch hz)), hce, hO.vm, hcl, hWs, hall, hf⟩⟩
  refine st1 _ ?_
  show Steps p.tables e below (T1.setTop { method := m, pc := pc + 3, locals := ls, stack := .ref T.heap.size :: rest, locked := none }) _
  jvm_step X₁.here [X₁.here.top, hexec, d3', Value.category]
  exact hsteps
/-- 'throw new E("text")': new; dup; ldc; invokespecial; athrow -/
theorem vx_throwS {cc : ByteArray} {pc : Nat} (hexec : p.tables.exec = Jvm.exec) (hb : c.code = cc) (hl : l.stackTraces = false) {own cls text : String} {names : List String} {ik is ic mc ms sa : Nat} {A : Nat → Prop}
    (hown : s.vm.findClass own = some m.cls) (hcls : Bundle.fit cls = true) (hnames : ∀ n ∈ names, Bundle.fit n = true)
    (hk : (Cond.classLink own ik cls).before args s = true) (hini : (Cond.initialized cls).before args s = true) (hstr : vk_R own is text sa s) (hat : ∀ w ∈ vx_atS own ic cls names, w.before args s = true)
    (hgood : ∀ w ∈ Cond.classLink own ik cls :: Cond.initialized cls :: vx_atS own ic cls names, vx_ot w = true)
    (hU : vx_Zq Bundle.tN "UNASSIGNED_STACK" Bundle.steD A s s.heap) (hN : vx_Zq Bundle.tN "SUPPRESSED_SENTINEL" Bundle.listD A s s.heap) (hS : va_S A s.heap H locs) (hsize : ls.size = c.maxLocals)
    (d0 : decode cc pc = .ok (.new ik, 3)) (d3 : decode cc (pc + 3) = .ok (.dup, 1)) (d4 : decode cc (pc + 4) = .ok (.ldc is, 2)) (d6 : decode cc (pc + 6) = .ok (.invokespecial ic, 3)) (d9 : decode cc (pc + 9) = .ok (.athrow, 1))
    (hout : ∀ x ∈ c.exceptionTable.toList, covers x (pc + 9) = false)
    (hRframes : names.length + 3 < R.frames) (hRlocals : (rest.map fun v => v.category).sum + (13 * (names.length + 1) + 43) ≤ R.locals) (hRcells : cells + 1 ≤ R.cells) (hRslots : slots + 6 ≤ R.slots) (hlocks : meth.locks = false)
    (hx : ∀ t : State, s.vm.Alike t.vm → H.size ≤ t.heap.size → (∀ q : Nat, q < H.size → t.heap[q]? = H[q]?) → XC cls s t)
    (hf : ∀ z ∈ locs, free z.base) (hc : cells + 1 ≤ mc) (hs : slots + 6 ≤ ms) :
    W p l e R s m args below meth c H locs cells slots (vx_MQ below Qc XC args s mc ms free) (F0 m pc ls rest) := by
  intro T hT X
  have htr : e.platform.stackTraces = false := (show e.platform.stackTraces = l.stackTraces by rw [X.admits.platform]).trans hl
  have Y := vx_rebase X (R' := { frames := R.frames, locals := R.locals, cells := 1, slots := 6 }) (Nat.le_refl _) (Nat.le_refl _) hRcells hRslots
  obtain ⟨s', hA⟩ : ∃ z, z = (T.setVm s.vm).setFrames (.invoking m args :: below) := ⟨_, rfl⟩
  rw [← hA] at Y
  have hvm : s'.vm = s.vm := by rw [hA]; rfl
  have hhp : s'.heap = H := by rw [hA]; exact hT
  have hW0 : s.WarmedH s'.vm := by rw [hvm]; exact State.WarmedH.refl s
  have hat' : ∀ w ∈ vx_atS own ic cls names, w.before args s' = true := fun w hw => vx_ot_at hW0 hvm.symm (hgood w (List.mem_cons_of_mem _ (List.mem_cons_of_mem _ hw))) (hat w hw)
  have hk' : (Cond.classLink own ik cls).before args s' = true := vx_ot_at hW0 hvm.symm (hgood _ List.mem_cons_self) hk
  have hini' : (Cond.initialized cls).before args s' = true := vx_ot_at hW0 hvm.symm (hgood _ (List.mem_cons_of_mem _ List.mem_cons_self)) hini
  have hU' : vx_Zq Bundle.tN "UNASSIGNED_STACK" Bundle.steD A s' s'.heap := by rw [hhp]; exact vx_Zq.moved hW0.alike (hU.kept hS.2.1)
  have hN' : vx_Zq Bundle.tN "SUPPRESSED_SENTINEL" Bundle.listD A s' s'.heap := by rw [hhp]; exact vx_Zq.moved hW0.alike (hN.kept hS.2.1)
  have h : ∀ w ∈ Bundle.ownAtoms own ic cls names, w.before args s' = true := vx_own hat' (vx_isRefq hU'.1) (vx_isRefq hN'.1) hU'.2.word hN'.2.word
  have hown' : s'.vm.findClass own = some m.cls := by rw [hvm]; exact hown
  have hins : (Cond.instantiable cls 6).before args s' = true := h _ (by simp [Bundle.ownAtoms])
  obtain ⟨vm₁, cX, kX, hfX, hkX, -, -, X₁, st1⟩ := Y.newCold hexec (own := own) (C := cls) (index := ik) (n := 6) hown' hk' hins hini'
    (g := F0 m pc ls rest) rfl (by rw [hb]; exact d0) (Nat.le_refl _) (Nat.le_refl _)
  generalize hT1 : (T.setVm vm₁).pushCell { cls := cX, slots := kX.instanceTypes.map defaultValue, vm := .none } = T1 at X₁ st1
  have hcat : (Value.ref T.heap.size).category = 1 := rfl
  have hcellA : T1.heap[T.heap.size]? = some (freshCell cX kX) := by rw [← hT1]; exact State.heap_pushCell_size _ _
  have d3' : decode c.code (pc + 3) = .ok (.dup, 1) := by rw [hb]; exact d3
  have d4' : decode c.code (pc + 4) = .ok (.ldc is, 2) := by rw [hb]; exact d4
  have hstr' : vk_R own is text sa s' := vk_R.warm hW0 hstr
  obtain ⟨U, hsteps, hrun, hend, hW, hsame, ce, hce, hO⟩ := X₁.ctorThrowS hexec htr (own := own) (cls := cls) (names := names) (ic := ic) hown' hcls hnames h (fun x hx => nomatch hx) hfX hkX hcellA (by rw [hhp, hT]; exact Nat.le_refl _) (msg := .ref sa) rfl
    (g := { method := m, pc := pc + 6, locals := ls, stack := .ref sa :: .ref T.heap.size :: .ref T.heap.size :: rest, locked := none }) rfl hsize rfl rfl (rest := rest) rfl
    (by rw [hb]; exact d6) (by rw [hb]; exact d9) hout hRframes (by simp only [List.map_cons, List.sum_cons, hcat]; omega) hlocks
  obtain ⟨f1, f2⟩ := vx_frame hsame
  rw [hhp] at f1 f2
  have hWs : s.WarmedH U.vm := State.WarmedH.trans hW0 hW
  have hcl : s.vm.findClass cls = some ce.cls := by
    have h9 := hO.cls
    rw [hvm] at h9
    exact h9
  have hall : s.sameButNew ({ U with vm := s.vm } : State) locs mc ms := by
    subst hA
    obtain ⟨e1, e2⟩ := hsame
    rw [State.setFrames_setFrames] at e1
    have h2 : (T.setVm s.vm).sameButNew ({ U with vm := s.vm } : State) [] (0 + 1) (0 + 6) := ⟨e1, e2⟩
    have h3 := X.same.trans h2
    rw [List.append_nil] at h3
    exact h3.mono hc hs
  refine ⟨U, ?_, .threw T.heap.size, hrun, hend, Or.inr ⟨T.heap.size, rfl, cls, ce, locs, hx U hWs.alike f1 (fun q hq => f2 q hq (fun z hz => nomatch hz)), hce, hO.vm, hcl, hWs, hall, hf⟩⟩
  refine st1 _ ?_
  show Steps p.tables e below (T1.setTop { method := m, pc := pc + 3, locals := ls, stack := .ref T.heap.size :: rest, locked := none }) _
  jvm_step X₁.here [X₁.here.top, hexec, d3', Value.category]
  exact X₁.ldcString hexec (own := own) (text := text) (index := is) (a := sa) hown' hstr'.1 hstr'.2
    (g := { method := m, pc := pc + 4, locals := ls, stack := .ref T.heap.size :: .ref T.heap.size :: rest, locked := none }) rfl d4' _ hsteps
/-- 'throw new E("text")', the text by a wide index -/
theorem vx_throwSW {cc : ByteArray} {pc : Nat} (hexec : p.tables.exec = Jvm.exec) (hb : c.code = cc) (hl : l.stackTraces = false) {own cls text : String} {names : List String} {ik is ic mc ms sa : Nat} {A : Nat → Prop}
    (hown : s.vm.findClass own = some m.cls) (hcls : Bundle.fit cls = true) (hnames : ∀ n ∈ names, Bundle.fit n = true)
    (hk : (Cond.classLink own ik cls).before args s = true) (hini : (Cond.initialized cls).before args s = true) (hstr : vk_R own is text sa s) (hat : ∀ w ∈ vx_atS own ic cls names, w.before args s = true)
    (hgood : ∀ w ∈ Cond.classLink own ik cls :: Cond.initialized cls :: vx_atS own ic cls names, vx_ot w = true)
    (hU : vx_Zq Bundle.tN "UNASSIGNED_STACK" Bundle.steD A s s.heap) (hN : vx_Zq Bundle.tN "SUPPRESSED_SENTINEL" Bundle.listD A s s.heap) (hS : va_S A s.heap H locs) (hsize : ls.size = c.maxLocals)
    (d0 : decode cc pc = .ok (.new ik, 3)) (d3 : decode cc (pc + 3) = .ok (.dup, 1)) (d4 : decode cc (pc + 4) = .ok (.ldc_w is, 3)) (d7 : decode cc (pc + 7) = .ok (.invokespecial ic, 3)) (d10 : decode cc (pc + 10) = .ok (.athrow, 1))
    (hout : ∀ x ∈ c.exceptionTable.toList, covers x (pc + 10) = false)
    (hRframes : names.length + 3 < R.frames) (hRlocals : (rest.map fun v => v.category).sum + (13 * (names.length + 1) + 43) ≤ R.locals) (hRcells : cells + 1 ≤ R.cells) (hRslots : slots + 6 ≤ R.slots) (hlocks : meth.locks = false)
    (hx : ∀ t : State, s.vm.Alike t.vm → H.size ≤ t.heap.size → (∀ q : Nat, q < H.size → t.heap[q]? = H[q]?) → XC cls s t)
    (hf : ∀ z ∈ locs, free z.base) (hc : cells + 1 ≤ mc) (hs : slots + 6 ≤ ms) :
    W p l e R s m args below meth c H locs cells slots (vx_MQ below Qc XC args s mc ms free) (F0 m pc ls rest) := by
  intro T hT X
  have htr : e.platform.stackTraces = false := (show e.platform.stackTraces = l.stackTraces by rw [X.admits.platform]).trans hl
  have Y := vx_rebase X (R' := { frames := R.frames, locals := R.locals, cells := 1, slots := 6 }) (Nat.le_refl _) (Nat.le_refl _) hRcells hRslots
  obtain ⟨s', hA⟩ : ∃ z, z = (T.setVm s.vm).setFrames (.invoking m args :: below) := ⟨_, rfl⟩
  rw [← hA] at Y
  have hvm : s'.vm = s.vm := by rw [hA]; rfl
  have hhp : s'.heap = H := by rw [hA]; exact hT
  have hW0 : s.WarmedH s'.vm := by rw [hvm]; exact State.WarmedH.refl s
  have hat' : ∀ w ∈ vx_atS own ic cls names, w.before args s' = true := fun w hw => vx_ot_at hW0 hvm.symm (hgood w (List.mem_cons_of_mem _ (List.mem_cons_of_mem _ hw))) (hat w hw)
  have hk' : (Cond.classLink own ik cls).before args s' = true := vx_ot_at hW0 hvm.symm (hgood _ List.mem_cons_self) hk
  have hini' : (Cond.initialized cls).before args s' = true := vx_ot_at hW0 hvm.symm (hgood _ (List.mem_cons_of_mem _ List.mem_cons_self)) hini
  have hU' : vx_Zq Bundle.tN "UNASSIGNED_STACK" Bundle.steD A s' s'.heap := by rw [hhp]; exact vx_Zq.moved hW0.alike (hU.kept hS.2.1)
  have hN' : vx_Zq Bundle.tN "SUPPRESSED_SENTINEL" Bundle.listD A s' s'.heap := by rw [hhp]; exact vx_Zq.moved hW0.alike (hN.kept hS.2.1)
  have h : ∀ w ∈ Bundle.ownAtoms own ic cls names, w.before args s' = true := vx_own hat' (vx_isRefq hU'.1) (vx_isRefq hN'.1) hU'.2.word hN'.2.word
  have hown' : s'.vm.findClass own = some m.cls := by rw [hvm]; exact hown
  have hins : (Cond.instantiable cls 6).before args s' = true := h _ (by simp [Bundle.ownAtoms])
  obtain ⟨vm₁, cX, kX, hfX, hkX, -, -, X₁, st1⟩ := Y.newCold hexec (own := own) (C := cls) (index := ik) (n := 6) hown' hk' hins hini'
    (g := F0 m pc ls rest) rfl (by rw [hb]; exact d0) (Nat.le_refl _) (Nat.le_refl _)
  generalize hT1 : (T.setVm vm₁).pushCell { cls := cX, slots := kX.instanceTypes.map defaultValue, vm := .none } = T1 at X₁ st1
  have hcat : (Value.ref T.heap.size).category = 1 := rfl
  have hcellA : T1.heap[T.heap.size]? = some (freshCell cX kX) := by rw [← hT1]; exact State.heap_pushCell_size _ _
  have d3' : decode c.code (pc + 3) = .ok (.dup, 1) := by rw [hb]; exact d3
  have d4' : decode c.code (pc + 4) = .ok (.ldc_w is, 3) := by rw [hb]; exact d4
  have hstr' : vk_R own is text sa s' := vk_R.warm hW0 hstr
  obtain ⟨U, hsteps, hrun, hend, hW, hsame, ce, hce, hO⟩ := X₁.ctorThrowS hexec htr (own := own) (cls := cls) (names := names) (ic := ic) hown' hcls hnames h (fun x hx => nomatch hx) hfX hkX hcellA (by rw [hhp, hT]; exact Nat.le_refl _) (msg := .ref sa) rfl
    (g := { method := m, pc := pc + 7, locals := ls, stack := .ref sa :: .ref T.heap.size :: .ref T.heap.size :: rest, locked := none }) rfl hsize rfl rfl (rest := rest) rfl
    (by rw [hb]; exact d7) (by rw [hb]; exact d10) hout hRframes (by simp only [List.map_cons, List.sum_cons, hcat]; omega) hlocks
  obtain ⟨f1, f2⟩ := vx_frame hsame
  rw [hhp] at f1 f2
  have hWs : s.WarmedH U.vm := State.WarmedH.trans hW0 hW
  have hcl : s.vm.findClass cls = some ce.cls := by
    have h9 := hO.cls
    rw [hvm] at h9
    exact h9
  have hall : s.sameButNew ({ U with vm := s.vm } : State) locs mc ms := by
    subst hA
    obtain ⟨e1, e2⟩ := hsame
    rw [State.setFrames_setFrames] at e1
    have h2 : (T.setVm s.vm).sameButNew ({ U with vm := s.vm } : State) [] (0 + 1) (0 + 6) := ⟨e1, e2⟩
    have h3 := X.same.trans h2
    rw [List.append_nil] at h3
    exact h3.mono hc hs
  refine ⟨U, ?_, .threw T.heap.size, hrun, hend, Or.inr ⟨T.heap.size, rfl, cls, ce, locs, hx U hWs.alike f1 (fun q hq => f2 q hq (fun z hz => nomatch hz)), hce, hO.vm, hcl, hWs, hall, hf⟩⟩
  refine st1 _ ?_
  show Steps p.tables e below (T1.setTop { method := m, pc := pc + 3, locals := ls, stack := .ref T.heap.size :: rest, locked := none }) _
  jvm_step X₁.here [X₁.here.top, hexec, d3', Value.category]
  exact X₁.ldcStringW hexec (own := own) (text := text) (index := is) (a := sa) hown' hstr'.1 hstr'.2
    (g := { method := m, pc := pc + 4, locals := ls, stack := .ref T.heap.size :: .ref T.heap.size :: rest, locked := none }) rfl d4' _ hsteps
end Ends
section Bodies
variable {l : Launch}
theorem vx_ofW {y : MethodName} {ws ws' : List Cond} {rm : Room} {Pc : Array Value → State → Prop} {Qc : Array Value → State → Outcome → State → Prop} {XC : String → State → State → Prop} {mc ms : Nat} {free : Addr → Prop} {cc : ByteArray} {maxL : Nat} {ret : Option FieldType}
    (hy : plainName y.cls = true) (hw : ws = Cond.code y cc maxL ret :: ws')
    (body : ∀ p e s m args below meth c s₁, BodyLoose p l y (headSpec ws rm) cc maxL ret e s m args below meth c s₁ → c.maxLocals = maxL → (∀ x ∈ c.exceptionTable.toList, False) → Pc args s →
      W p l e (headSpec ws rm).room s m args below meth c s.heap [] 0 0 (vx_MQ below Qc XC args s mc ms free) (entryFrame m args maxL)) : vx_Met l y ws rm Pc Qc XC mc ms free := by
  refine MetFree.of_bodyS (code := cc) (maxLocals := maxL) (ret := ret) hy ?_ ?_
  · intro args s m h hn
    obtain ⟨meth, c, h1, h2, h3, h4, h5, h6, -, -⟩ := Cond.code_spec hn (atoms_spec (ws := ws) h _ (by rw [hw]; exact List.mem_cons_self))
    exact ⟨meth, c, h1, h2, h3, h4, h5, h6⟩
  · intro p e s m args below meth c s₁ B hml hP _
    have hh0 : s₁.heap = s.heap := by rw [B.state]; rfl
    have ht : ∀ x ∈ c.exceptionTable.toList, False := by
      obtain ⟨meth9, c9, h1, h2, -, -, -, -, h7, -⟩ := Cond.code_spec B.named (atoms_spec (ws := ws) B.pre _ (by rw [hw]; exact List.mem_cons_self))
      cases Option.some.inj (h1.symm.trans B.method)
      cases Option.some.inj (h2.symm.trans (Stand.of_body B).code)
      intro x hx
      rw [Array.isEmpty_iff.mp h7] at hx
      cases hx
    obtain ⟨t, a1, o, b1, b2, b3⟩ := body p e s m args below meth c s₁ B hml ht hP s₁ hh0 (Stand.of_body B)
    exact ⟨t, o, a1, b1, b2, b3⟩
/-- the table of a body with handlers -/
theorem vx_table {p : Program} {x y : MethodName} {S : Spec} {cc bytes : ByteArray} {maxL maxL' : Nat} {ret ret' : Option FieldType} {e : Env} {s s₁ : State} {m : MethodId} {args : Array Value} {below : List Frame} {meth : Method} {c : Code} {hh : List (Nat × Nat × Nat × Nat)}
    (B : BodyLoose p l y S cc maxL ret e s m args below meth c s₁) (h : (Cond.codeWith y bytes maxL' ret' hh).before args s = true) : c.exceptionTable.toList = tableOf hh := by
  obtain ⟨m9, meth9, c9, hn9, h1, h2, -, -, h6, -⟩ := Cond.codeWith_spec h
  cases Option.some.inj (hn9.symm.trans B.named)
  cases Option.some.inj (h1.symm.trans B.method)
  cases Option.some.inj (h2.symm.trans (Stand.of_body B).code)
  rw [← h6, table_eq]
end Bodies
end VXA
/-! ===== END ===== -/
/-! ===== BEGIN a static call of a method with an exception table ===== -/
section VXS
variable {p : Program} {l : Launch} {e : Env} {R : Room} {s : State} {m : MethodId} {args : Array Value} {below : List Frame} {meth : Method} {c : Code} {T : State} {H : Heap} {locs : List Loc} {cells slots : Nat}
abbrev vx_CSW (R : Room) (s : State) (args : Array Value) (own : String) (index : Nat) (y : MethodName) (bytes : ByteArray) (maxL : Nat) (ret : Option FieldType) (hh : List (Nat × Nat × Nat × Nat)) (ws : List Cond) (rm : Room) (mc ms n : Nat) : Prop :=
  (rm.cells = mc ∧ rm.slots = ms ∧ rm.frames + 1 ≤ R.frames ∧ 8 + (maxL + 11) + rm.locals ≤ R.locals ∧ (∀ w ∈ ws, ∀ (a' : Array Value) (U : State), s.WarmedH U.vm → w.before a' U = true) ∧ Cond.codeWith y bytes maxL ret hh ∈ ws) ∧
  (Cond.codeWith y bytes maxL ret hh).before args s = true ∧ (Cond.initialized y.cls).before args s = true ∧ (y.cls ≠ "java/lang/invoke/MethodHandle" ∧ y.cls ≠ "java/lang/invoke/VarHandle") ∧
  (∀ sig, parseMethodDescriptor y.desc = some sig → n = sig.parameters.length) ∧ (Cond.methodLink own index y).before args s = true ∧ (Cond.static y).before args s = true
theorem vx_cwSW {own : String} {index maxL mc ms : Nat} {y : MethodName} {bytes : ByteArray} {ret : Option FieldType} {hh : List (Nat × Nat × Nat × Nat)} {Ts ws ws' : List Cond} {rm : Room} (n : Nat) (ht : ∀ w ∈ Ts, w.before args s = true) (hT : GoodIn Ts (va_wsS own index y ws)) (hw : ws = Cond.codeWith y bytes maxL ret hh :: ws') (hrc : rm.cells = mc) (hrs : rm.slots = ms)
    (hd : y.cls ≠ "java/lang/invoke/MethodHandle" ∧ y.cls ≠ "java/lang/invoke/VarHandle" ∧ (parseMethodDescriptor y.desc).map (fun d => d.parameters.length) = some n) (hR : rm.frames + 1 ≤ R.frames ∧ 8 + (maxL + 11) + rm.locals ≤ R.locals) :
    vx_CSW R s args own index y bytes maxL ret hh ws rm mc ms n := by
  have ok : ∀ w ∈ va_wsS own index y ws, w.before args s = true := fun w h => ht w (hT w h).1
  have hG : GoodIn Ts ws := fun w h => hT w (by unfold va_wsS; exact List.mem_append_right _ h)
  have hc : Cond.codeWith y bytes maxL ret hh ∈ ws := by rw [hw]; exact List.mem_cons_self
  refine ⟨⟨hrc, hrs, hR.1, hR.2, pay_in ht hG, hc⟩, ht _ (hG _ hc).1, ok _ (by simp [va_wsS]), ⟨hd.1, hd.2.1⟩, fun sig h => ?_, ok _ (by simp [va_wsS]), ok _ (by simp [va_wsS])⟩
  have h2 := hd.2.2
  rw [h] at h2
  exact (Option.some.inj h2).symm
theorem vx_callSW (X : Stand p l e R s m args below meth c T locs cells slots) (hexec : p.tables.exec = Jvm.exec) {own : String} {index : Nat} {y : MethodName} {bytes : ByteArray} {maxL : Nat} {ret : Option FieldType} {hh : List (Nat × Nat × Nat × Nat)}
    (hown : s.vm.findClass own = some m.cls) (hlink : (Cond.methodLink own index y).before args s = true) (hstat : (Cond.static y).before args s = true) (hinit : (Cond.initialized y.cls).before args s = true)
    (hcode : (Cond.codeWith y bytes maxL ret hh).before args s = true) (hy : y.cls ≠ "java/lang/invoke/MethodHandle" ∧ y.cls ≠ "java/lang/invoke/VarHandle")
    {W9 : Nat} {Pre : Pt → Array Value → Prop} {Post : Pt → Array Value → Option Value → Pt → Prop} (hK : Back l R p e below s args y 3 W9 Pre Post)
    {g : JFrame} (hg : g.method = m) (hsize : g.locals.size = c.maxLocals) {argsL rest : List Value} (hlen : ∀ sig, parseMethodDescriptor y.desc = some sig → argsL.length = sig.parameters.length)
    (hstack : g.stack = argsL.reverse ++ rest) (hW : 2 * g.monitorRoom + (rest.map fun v => v.category).sum ≤ W9) (hdg : decode c.code g.pc = .ok (.invokestatic index, 3))
    (hpre : ∀ vm₁, s.WarmedH vm₁ → Pre ⟨T.setVm vm₁, locs, cells, slots⟩ argsL.toArray) :
    ∃ (v : Option Value) (vm₁ : Vm) (B : Pt), s.WarmedH vm₁ ∧ Stand p l e R s m args below meth c B.U B.locs B.cells B.slots ∧ Post ⟨T.setVm vm₁, locs, cells, slots⟩ argsL.toArray v B ∧
      ∀ target, Steps p.tables e below (B.U.setTop { g with pc := g.pc + 3, stack := v.toList ++ rest }) target → Steps p.tables e below (T.setTop g) target := by
  obtain ⟨mk, methM, cM, hnamed, hmethM, -, -, -, -, -, -, hsigM⟩ := Cond.codeWith_spec hcode
  have hstatic : methM.isStatic = true := Cond.static_spec hnamed hmethM hstat
  obtain ⟨kP, hkP, -⟩ := className_of_methodNamed hnamed
  have hinitP : kP.init = .initialized := Cond.initialized_spec (findClass_of_methodNamed hnamed) hkP hinit
  obtain ⟨vm₁, X₁, hstep₁⟩ := X.invokestatic hexec hown hlink hnamed hmethM hstatic hkP hinitP hy (g := g) hg (argsL := argsL) (rest := rest) (hlen _ hsigM) hstack hdg
  obtain ⟨v, B, X', hpost, hsteps⟩ := hK m meth c ⟨T.setVm vm₁, locs, cells, slots⟩ { g with stack := rest } (.invokestatic index) mk argsL.toArray X₁ hg hsize hdg hW (X₁.named hnamed) (hpre vm₁ X₁.warmed)
  exact ⟨v, vm₁, B, X₁.warmed, X', hpost, fun target h => hstep₁ _ fun acts => by rw [doInvoke_state]; exact hsteps.trans h⟩
theorem vx_runSW {y : MethodName} {bytes cc : ByteArray} {maxL nL mc ms n index : Nat} {ret : Option FieldType} {hh : List (Nat × Nat × Nat × Nat)} {ws : List Cond} {rm : Room} {Pc : Array Value → State → Prop} {Qc : Array Value → State → Outcome → State → Prop} {free : Addr → Prop} {Ts : List Cond} {own : String} {As rest : List Value} {g : JFrame}
    (S : CallFix p m c cc nL s args Ts own) (hM : Met l y ws rm Pc Qc mc ms free) (cw : vx_CSW R s args own index y bytes maxL ret hh ws rm mc ms n) (hp : PreS s H Pc As)
    (hg : g.method = m) (hn : As.length = n) (hsize : g.locals.size = nL) (hstack : g.stack = As.reverse ++ rest) (hW : 2 * g.monitorRoom + (rest.map fun v => v.category).sum ≤ 8) (hdg : decode cc g.pc = .ok (.invokestatic index, 3)) (hf : cells + mc ≤ R.cells ∧ slots + ms ≤ R.slots) :
    va_Run p l e R s m args below meth c H locs cells slots mc ms g rest (Qc As.toArray) (free) := by
  obtain ⟨⟨hrc, hrs, hfr, hlo, hws, hcw⟩, hcode, hini, hy, hlen, hl, hstt⟩ := cw
  have hK : Back l R p e below s args y 3 8 (PreOf R mc ms Pc) (PostOf Qc mc ms free) := va_backW (hh := hh) (bytes := bytes) (maxL := maxL) (ret := ret) hM hp.1 hrc hrs hfr hlo hws hcw (fun a' U hW => word_at hW (Or.inl (by first | rfl | simp [Cond.onTables, Cond.keeps, Cond.steady])) hini)
  obtain ⟨hx, hb, hml, ho, -⟩ := S
  intro T hT X
  obtain ⟨v, vm₁, ⟨U', l2, c2, s2⟩, hW₁, X', ⟨g', mk, t, L, e1, e2, hq, h1, hL, h2, h3⟩, st⟩ := vx_callSW X hx (hh := hh) (bytes := bytes) (maxL := maxL) (ret := ret) ho hl hstt hini hcode hy hK hg (hsize.trans hml.symm) (argsL := As) (rest := rest) (fun sig h => hn.trans (hlen sig h)) hstack hW (by rw [hb]; exact hdg)
    (fun vm₁ hW₁ => ⟨hf.1, hf.2, hp.2 (T.setVm vm₁) hT hW₁⟩)
  dsimp only [Pt.U, Pt.locs, Pt.cells, Pt.slots] at X' e1 e2 h1 h2 h3 st
  subst h1; subst h2; subst h3
  exact ⟨v, (T.setVm vm₁).calling g' mk As.toArray, t, U', L, hT, X', hL, e1, e2, hq, st⟩
/-- not caught here, past rows that name other classes: it goes on to the caller -/
theorem vx_outP {p : Program} {l : Launch} {e : Env} {R : Room} {s : State} {m : MethodId} {args : Array Value} {below : List Frame} {meth : Method} {c : Code} {H : Heap} {locs : List Loc} {cells slots : Nat} {free : Addr → Prop} {ls : Array Slot} {rest : List Value} {Qc : Array Value → State → Outcome → State → Prop} {XC : String → State → State → Prop}
    {pc : Nat} {own E : String} {ce : Cell} {q : Addr} {mc ms : Nat} (hown : s.vm.findClass own = some m.cls) (hlocks : meth.locks = false)
    (hpass : ∀ z ∈ c.exceptionTable.toList, covers z pc = false ∨ (z.catchType ≠ 0 ∧ ∃ nm : String, (Cond.classLink own z.catchType nm).before args s = true ∧ va_Nc E nm s)) (hcell : H[q]? = some ce) (hv : ce.vm = .none) (hcl : s.vm.findClass E = some ce.cls)
    (hx : ∀ t : State, t.heap = H → s.vm.Alike t.vm → XC E s t) (hf : ∀ z ∈ locs, free z.base) (hc : cells ≤ mc) (hs : slots ≤ ms) :
    vx_W p l e R s m args below meth c H locs cells slots (vx_MQ below Qc XC args s mc ms free) (F0 m pc ls rest) q := by
  intro T hT X
  have hpl : e.platform.magicAccessors = ({} : Platform).magicAccessors := by rw [X.admits.platform]
  obtain ⟨vm', hW', X', st⟩ := X.outThrough hlocks q (g := F0 m pc ls rest) rfl rfl rfl (cell := ce) (by rw [hT]; exact hcell) (by rw [hv]; rfl)
    (by obtain ⟨k9, h9, -⟩ := Vm.findClass_spec hcl; exact ⟨k9, h9⟩) (fun z hz => by
      rcases hpass z hz with h | ⟨hz0, nm, hl1, hn1⟩
      · exact Or.inl h
      · obtain ⟨c6, hc6, hcl6⟩ := Cond.classLink_spec hown hl1 e.platform hpl
        obtain ⟨a8, b8, h1, h2, h3⟩ := hn1
        cases Option.some.inj (h1.symm.trans hcl)
        cases Option.some.inj (h2.symm.trans hc6)
        exact Or.inr ⟨hz0, _, hcl6, h3⟩)
  obtain ⟨g₀, hfr⟩ := X'.frames_eq
  have hcell9 : ((T.setVm vm').setFrames (.throwing q :: below)).heap[q]? = some ce := by
    show T.heap[q]? = some ce
    rw [hT]; exact hcell
  have hend : Ended ((T.setVm vm').setFrames (.throwing q :: below)) below (.threw q) := State.frames_setFrames _ (State.cur_lt_of_frames hfr)
  refine ⟨(T.setVm vm').setFrames (.throwing q :: below), ?_, .threw q, X'.here.running, hend, Or.inr ⟨q, rfl, E, ce, locs, hx _ hT (X'.ends _).1.alike, hcell9, hv, hcl, (X'.ends _).1, (X'.ends _).2.mono hc hs, hf⟩⟩
  rw [X.pushThrowing_eq]
  exact st
/-- a thing of a world lies in the heap -/
theorem vx_lt {D : va_G} {cl : List vw_C} {ws : va_W} {H1 : Heap} (h : va_P D cl ws H1) {k : Nat} {q : Nat × va_E} (hk : ws[k]? = some q) : q.1 < H1.size := (h k q hk).lt
end VXS
/-! ===== END ===== -/
/-! ===== BEGIN methods with a table of their own: called by a name, returning or throwing ===== -/
section VXH
/-! vx_backW, vx_callVX, vx_callSX, vx_callVW, vx_runVW, vx_runVX, vx_runSX, vx_ofWH follow the same proofs as their sisters above (Free/Laws.lean, Shelf42/LK1.lean); vx_outP calls Shelf42/NT130.lean (outThrough). -/
section
variable {l : Launch} {R : Room} {p : Program} {e : Env} {below : List Frame} {s : State} {sargs : Array Value} {y : MethodName} {len W9 : Nat}
theorem vx_backW {ws : List Cond} {rm : Room} {Pc : Array Value → State → Prop} {Qc : Array Value → State → Outcome → State → Prop} {XC : String → State → State → Prop} {mc ms : Nat} {free : Addr → Prop} {bytes : ByteArray} {maxL : Nat} {ret : Option FieldType} {hh : List (Nat × Nat × Nat × Nat)}
    (hM : vx_Met l y ws rm Pc Qc XC mc ms free) (hblind : FrameBlind Pc) (hrc : rm.cells = mc) (hrs : rm.slots = ms)
    (hframes : rm.frames + 1 ≤ R.frames) (hlocals : W9 + (maxL + 11) + rm.locals ≤ R.locals)
    (hws : ∀ w ∈ ws, ∀ a' U, s.WarmedH U.vm → w.before a' U = true) (hcode : Cond.codeWith y bytes maxL ret hh ∈ ws) (hinit : ∀ a' U, s.WarmedH U.vm → (Cond.initialized y.cls).before a' U = true) :
    vx_Back l R p e below s sargs y len W9 (PreOf R mc ms Pc) (PostOf Qc mc ms free) (vx_Post XC mc ms free) := by
  intro m meth c A g ig mk a X hg hsize hdg hW hn hp
  have h1 : (headSpec ws rm).pre.before a A.U = true := atoms_intro fun w hw => hws w hw _ _ X.warmed
  have h2 : (Cond.codeWith y bytes maxL ret hh).before a A.U = true := hws _ hcode _ _ X.warmed
  have h3 : (Cond.initialized y.cls).before a A.U = true := hinit _ _ X.warmed
  have h4 : A.cells + (headSpec ws rm).room.cells ≤ R.cells := by rw [show (headSpec ws rm).room.cells = mc from hrc]; exact hp.1
  have h5 : A.slots + (headSpec ws rm).room.slots ≤ R.slots := by rw [show (headSpec ws rm).room.slots = ms from hrs]; exact hp.2.1
  have hPc : Pc a (A.U.calling g mk a) := hblind _ _ _ _ hp.2.2
  obtain ⟨U, Ls, c0, s0⟩ := A
  dsimp only [Pt.U, Pt.locs, Pt.cells, Pt.slots] at h1 h2 h3 h4 h5 X hn hPc ⊢
  obtain ⟨m9, methY, cY, hn9, hmY, hcY, -, hlY, -⟩ := Cond.codeWith_spec h2
  cases Option.some.inj (hn9.symm.trans hn)
  obtain ⟨kY, hkY, -⟩ := className_of_methodNamed hn
  have hinitY : kY.init = .initialized := Cond.initialized_spec (findClass_of_methodNamed hn) hkY h3
  have h : At U g.method c below := by rw [hg]; exact X.here
  have hlocals9 : W9 + (maxL + 11) + (headSpec ws rm).room.locals ≤ R.locals := hlocals
  have happ : (headSpec ws rm).appliesLoose y e.platform (U.calling g mk a) = true :=
    Spec.appliesLoose_calling (g := g) h hdg hn hkY hinitY
      (X.room_calling (g := g) (R' := (headSpec ws rm).room) hsize hmY hcY hframes (by rw [hlY]; omega) h4 h5) h1
  obtain ⟨mid, hmid⟩ := h.above
  have hfr : (U.setTop g).frames = (.java g :: mid) ++ below := by rw [State.frames_setTop' g h.top, hmid]; rfl
  obtain ⟨o, s₂, hsteps, -, hend, hq⟩ := Steps.callFree hM p X.admits X.cas X.clock (acts := []) hfr happ hPc trivial
  have hq' : vx_Q Qc XC mc ms free a (U.calling g mk a) o s₂ := hq
  rw [State.frames_setTop' g h.top] at hend
  obtain ⟨g₀, hg0⟩ := Option.isSome_iff_exists.mp h.top
  obtain ⟨r, hr⟩ := State.topJava?_eq_some.mp hg0
  have hr' : (({ U with heap := s₂.heap, slotsUsed := s₂.slotsUsed } : State).setVm s₂.vm).frames = .java g₀ :: r := hr
  rcases hq' with ⟨hqc, L, hfe, hL⟩ | ⟨q, rfl, E, ce, L, hx, hce, hcv, hcl, hW₂, hsm, hL⟩
  · obtain ⟨⟨v, rfl⟩, hW₂, e2, q2, q3, q4, q5, q6⟩ := id hfe
    have e3 : s₂ = ({ (U.calling g mk a).setFrames s₂.frames with heap := s₂.heap, slotsUsed := s₂.slotsUsed } : State).setVm s₂.vm := by
      have : s₂ = ({ s₂ with vm := (U.calling g mk a).vm } : State).setVm s₂.vm := rfl
      rw [e2] at this
      exact this
    obtain ⟨c₂, i₂, len₂, hc₂, hd₂, hf₂⟩ := hend
    have hW' : U.WarmedH s₂.vm := hW₂
    have hcc : c₂ = c := by
      have h1 : s₂.code? g.method = U.code? g.method := by
        rw [State.code?_eq, State.code?_eq, hW'.alike.method?]
      exact Option.some.inj (hc₂.symm.trans (h1.trans h.code))
    subst hcc
    have hlen : len₂ = len := by rw [hdg] at hd₂; cases hd₂; rfl
    subst hlen
    have hs₂ : s₂ = (({ U with heap := s₂.heap, slotsUsed := s₂.slotsUsed } : State).setVm s₂.vm).setTop { g with pc := g.pc + len₂, stack := v.toList ++ g.stack } := by
      refine e3.trans ?_
      rw [hf₂, State.calling_eq h.top, State.setFrames_setFrames, State.setTop_of_frames _ hr', hr]
      rfl
    have hsame : U.sameButNew ({ U with heap := s₂.heap, slotsUsed := s₂.slotsUsed } : State) L mc ms := by
      refine ⟨?_, q2, q3, q4, q5, q6⟩
      obtain ⟨t, ht, -⟩ := State.frames_cons hr
      show ({ U with heap := s₂.heap, slotsUsed := s₂.slotsUsed } : State) = { U.setFrames U.frames with heap := s₂.heap, slotsUsed := s₂.slotsUsed }
      rw [State.setFrames_self ht]
    subst hg
    refine Or.inl ⟨v, ⟨(({ U with heap := s₂.heap, slotsUsed := s₂.slotsUsed } : State).setVm s₂.vm), Ls ++ L, c0 + mc, s0 + ms⟩,
      ⟨X.admits, X.cas, X.clock, X.frames, X.room, X.hears, X.method, X.code, (X.here.setHeapUsed s₂.heap s₂.slotsUsed).setVm hW'.alike, X.tail, State.WarmedH.trans X.warmed hW', X.limits, X.bytes, X.same.trans (hsame.setVm s.vm)⟩,
      ⟨g, mk, s₂, L, rfl, rfl, hqc, rfl, hL, rfl, rfl⟩, ?_⟩
    show Steps p.tables e below _ ((({ U with heap := s₂.heap, slotsUsed := s₂.slotsUsed } : State).setVm s₂.vm).setTop { g with pc := g.pc + len₂, stack := v.toList ++ g.stack })
    rw [← hs₂]
    exact hsteps
  · obtain ⟨e2, q2, q3, q4, q5, q6⟩ := id hsm
    have e3 : s₂ = ({ (U.calling g mk a).setFrames s₂.frames with heap := s₂.heap, slotsUsed := s₂.slotsUsed } : State).setVm s₂.vm := by
      have : s₂ = ({ s₂ with vm := (U.calling g mk a).vm } : State).setVm s₂.vm := rfl
      rw [e2] at this
      exact this
    have hf₂ : s₂.frames = .throwing q :: .java g :: U.frames.tail := hend
    have hW' : U.WarmedH s₂.vm := hW₂
    have hs₂ : s₂ = ((({ U with heap := s₂.heap, slotsUsed := s₂.slotsUsed } : State).setVm s₂.vm).setTop g).pushFrame (.throwing q) := by
      refine e3.trans ?_
      rw [hf₂, State.calling_eq h.top, State.setFrames_setFrames, State.pushFrame, State.frames_setTop _ hr', State.setTop_of_frames _ hr', State.setFrames_setFrames, hr]
      rfl
    have hsame : U.sameButNew ({ U with heap := s₂.heap, slotsUsed := s₂.slotsUsed } : State) L mc ms := by
      refine ⟨?_, q2, q3, q4, q5, q6⟩
      obtain ⟨t, ht, -⟩ := State.frames_cons hr
      show ({ U with heap := s₂.heap, slotsUsed := s₂.slotsUsed } : State) = { U.setFrames U.frames with heap := s₂.heap, slotsUsed := s₂.slotsUsed }
      rw [State.setFrames_self ht]
    subst hg
    refine Or.inr ⟨q, ⟨(({ U with heap := s₂.heap, slotsUsed := s₂.slotsUsed } : State).setVm s₂.vm), Ls ++ L, c0 + mc, s0 + ms⟩,
      ⟨X.admits, X.cas, X.clock, X.frames, X.room, X.hears, X.method, X.code, (X.here.setHeapUsed s₂.heap s₂.slotsUsed).setVm hW'.alike, X.tail, State.WarmedH.trans X.warmed hW', X.limits, X.bytes, X.same.trans (hsame.setVm s.vm)⟩,
      ⟨g, mk, s₂, L, E, ce, rfl, rfl, hx, hce, hcv, hcl, rfl, hL, rfl, rfl⟩, ?_⟩
    show Steps p.tables e below _ (((({ U with heap := s₂.heap, slotsUsed := s₂.slotsUsed } : State).setVm s₂.vm).setTop g).pushFrame (.throwing q))
    rw [← hs₂]
    exact hsteps
end
variable {p : Program} {l : Launch} {e : Env} {R : Room} {s : State} {m : MethodId} {args : Array Value} {below : List Frame} {meth : Method} {c : Code} {T : State} {H : Heap} {locs : List Loc} {cells slots : Nat}
theorem vx_callVX (X : Stand p l e R s m args below meth c T locs cells slots) (hexec : p.tables.exec = Jvm.exec) {own C : String} {index : Nat} {y : MethodName} {bytes : ByteArray} {maxL : Nat} {ret : Option FieldType} {hh : List (Nat × Nat × Nat × Nat)}
    (hown : s.vm.findClass own = some m.cls) (hlink : (Cond.methodLink own index y).before args s = true) (hinst : (Cond.instanceMethod y).before args s = true) (hsel : (Cond.selects C y y).before args s = true)
    (hcode : (Cond.codeWith y bytes maxL ret hh).before args s = true) (hy : y.cls ≠ "java/lang/invoke/MethodHandle" ∧ y.cls ≠ "java/lang/invoke/VarHandle")
    {W9 : Nat} {Pre : Pt → Array Value → Prop} {Post : Pt → Array Value → Option Value → Pt → Prop} {PostX : Pt → Array Value → Addr → Pt → Prop} (hK : vx_Back l R p e below s args y 3 W9 Pre Post PostX)
    {b : Addr} {cellB : Cell} (hcell : T.heap[b]? = some cellB) (hobj : cellB.vm.isStatics = false) (hcls : s.vm.findClass C = some cellB.cls)
    {g : JFrame} (hg : g.method = m) (hsize : g.locals.size = c.maxLocals) {argsL rest : List Value} (hlen : ∀ sig, parseMethodDescriptor y.desc = some sig → argsL.length = sig.parameters.length)
    (hstack : g.stack = argsL.reverse ++ .ref b :: rest) (hW : 2 * g.monitorRoom + (rest.map fun v => v.category).sum ≤ W9) (hdg : decode c.code g.pc = .ok (.invokevirtual index, 3))
    (hpre : ∀ vm₁, s.WarmedH vm₁ → Pre ⟨T.setVm vm₁, locs, cells, slots⟩ (Value.ref b :: argsL).toArray) :
    (∃ (v : Option Value) (vm₁ : Vm) (B : Pt), s.WarmedH vm₁ ∧ Stand p l e R s m args below meth c B.U B.locs B.cells B.slots ∧ Post ⟨T.setVm vm₁, locs, cells, slots⟩ (Value.ref b :: argsL).toArray v B ∧
      ∀ target, Steps p.tables e below (B.U.setTop { g with pc := g.pc + 3, stack := v.toList ++ rest }) target → Steps p.tables e below (T.setTop g) target) ∨
    (∃ (q : Addr) (vm₁ : Vm) (B : Pt), s.WarmedH vm₁ ∧ Stand p l e R s m args below meth c B.U B.locs B.cells B.slots ∧ PostX ⟨T.setVm vm₁, locs, cells, slots⟩ (Value.ref b :: argsL).toArray q B ∧
      Steps p.tables e below (T.setTop g) ((B.U.setTop { g with stack := rest }).pushFrame (.throwing q))) := by
  obtain ⟨mk, methM, hnamed, hmethM, hstM, habM⟩ := Cond.instanceMethod_spec hinst
  obtain ⟨m8, methM', cM, hn8, hmethM', -, -, -, -, -, -, hsigM⟩ := Cond.codeWith_spec hcode
  cases Option.some.inj (hn8.symm.trans hnamed)
  cases hmethM.symm.trans hmethM'
  obtain ⟨c2, r2, m2, q1, q2, q3, q4, kP, hkP, hkPi⟩ := Cond.selects_spec hsel
  cases hcls.symm.trans q1
  cases (State.methodFound?_of_named hnamed hy).symm.trans q2
  cases hnamed.symm.trans q3
  have hselP : selectMethod e.platform s.vm cellB.cls mk = .method mk := by rw [Launch.admits_selectMethod X.admits]; exact q4
  obtain ⟨vm₁, X₁, hstep₁⟩ := X.invokevirtual hexec hown hlink hnamed hmethM hstM hkP hkPi hy (a := b) (cell := cellB) hcell
    (fun z h => by rw [h] at hobj; cases hobj) hselP hmethM habM hkP hkPi (g := g) hg (argsL := argsL) (rest := rest) (hlen _ hsigM) hstack hdg
  rcases hK m meth c ⟨T.setVm vm₁, locs, cells, slots⟩ { g with stack := rest } (.invokevirtual index) mk (Value.ref b :: argsL).toArray X₁ hg hsize hdg hW (X₁.named hnamed) (hpre vm₁ X₁.warmed) with ⟨v, B, X', hpost, hsteps⟩ | ⟨q, B, X', hpost, hsteps⟩
  · exact Or.inl ⟨v, vm₁, B, X₁.warmed, X', hpost, fun target h => hstep₁ _ fun acts => by rw [doInvoke_state]; exact hsteps.trans h⟩
  · exact Or.inr ⟨q, vm₁, B, X₁.warmed, X', hpost, hstep₁ _ fun acts => by rw [doInvoke_state]; exact hsteps⟩
theorem vx_callSX (X : Stand p l e R s m args below meth c T locs cells slots) (hexec : p.tables.exec = Jvm.exec) {own : String} {index : Nat} {y : MethodName} {bytes : ByteArray} {maxL : Nat} {ret : Option FieldType} {hh : List (Nat × Nat × Nat × Nat)}
    (hown : s.vm.findClass own = some m.cls) (hlink : (Cond.methodLink own index y).before args s = true) (hstat : (Cond.static y).before args s = true) (hinit : (Cond.initialized y.cls).before args s = true)
    (hcode : (Cond.codeWith y bytes maxL ret hh).before args s = true) (hy : y.cls ≠ "java/lang/invoke/MethodHandle" ∧ y.cls ≠ "java/lang/invoke/VarHandle")
    {W9 : Nat} {Pre : Pt → Array Value → Prop} {Post : Pt → Array Value → Option Value → Pt → Prop} {PostX : Pt → Array Value → Addr → Pt → Prop} (hK : vx_Back l R p e below s args y 3 W9 Pre Post PostX)
    {g : JFrame} (hg : g.method = m) (hsize : g.locals.size = c.maxLocals) {argsL rest : List Value} (hlen : ∀ sig, parseMethodDescriptor y.desc = some sig → argsL.length = sig.parameters.length)
    (hstack : g.stack = argsL.reverse ++ rest) (hW : 2 * g.monitorRoom + (rest.map fun v => v.category).sum ≤ W9) (hdg : decode c.code g.pc = .ok (.invokestatic index, 3))
    (hpre : ∀ vm₁, s.WarmedH vm₁ → Pre ⟨T.setVm vm₁, locs, cells, slots⟩ argsL.toArray) :
    (∃ (v : Option Value) (vm₁ : Vm) (B : Pt), s.WarmedH vm₁ ∧ Stand p l e R s m args below meth c B.U B.locs B.cells B.slots ∧ Post ⟨T.setVm vm₁, locs, cells, slots⟩ argsL.toArray v B ∧
      ∀ target, Steps p.tables e below (B.U.setTop { g with pc := g.pc + 3, stack := v.toList ++ rest }) target → Steps p.tables e below (T.setTop g) target) ∨
    (∃ (q : Addr) (vm₁ : Vm) (B : Pt), s.WarmedH vm₁ ∧ Stand p l e R s m args below meth c B.U B.locs B.cells B.slots ∧ PostX ⟨T.setVm vm₁, locs, cells, slots⟩ argsL.toArray q B ∧
      Steps p.tables e below (T.setTop g) ((B.U.setTop { g with stack := rest }).pushFrame (.throwing q))) := by
  obtain ⟨mk, methM, cM, hnamed, hmethM, -, -, -, -, -, -, hsigM⟩ := Cond.codeWith_spec hcode
  have hstatic : methM.isStatic = true := Cond.static_spec hnamed hmethM hstat
  obtain ⟨kP, hkP, -⟩ := className_of_methodNamed hnamed
  have hinitP : kP.init = .initialized := Cond.initialized_spec (findClass_of_methodNamed hnamed) hkP hinit
  obtain ⟨vm₁, X₁, hstep₁⟩ := X.invokestatic hexec hown hlink hnamed hmethM hstatic hkP hinitP hy (g := g) hg (argsL := argsL) (rest := rest) (hlen _ hsigM) hstack hdg
  rcases hK m meth c ⟨T.setVm vm₁, locs, cells, slots⟩ { g with stack := rest } (.invokestatic index) mk argsL.toArray X₁ hg hsize hdg hW (X₁.named hnamed) (hpre vm₁ X₁.warmed) with ⟨v, B, X', hpost, hsteps⟩ | ⟨q, B, X', hpost, hsteps⟩
  · exact Or.inl ⟨v, vm₁, B, X₁.warmed, X', hpost, fun target h => hstep₁ _ fun acts => by rw [doInvoke_state]; exact hsteps.trans h⟩
  · exact Or.inr ⟨q, vm₁, B, X₁.warmed, X', hpost, hstep₁ _ fun acts => by rw [doInvoke_state]; exact hsteps⟩
theorem vx_callVW (X : Stand p l e R s m args below meth c T locs cells slots) (hexec : p.tables.exec = Jvm.exec) {own C : String} {index : Nat} {y : MethodName} {bytes : ByteArray} {maxL : Nat} {ret : Option FieldType} {hh : List (Nat × Nat × Nat × Nat)}
    (hown : s.vm.findClass own = some m.cls) (hlink : (Cond.methodLink own index y).before args s = true) (hinst : (Cond.instanceMethod y).before args s = true) (hsel : (Cond.selects C y y).before args s = true)
    (hcode : (Cond.codeWith y bytes maxL ret hh).before args s = true) (hy : y.cls ≠ "java/lang/invoke/MethodHandle" ∧ y.cls ≠ "java/lang/invoke/VarHandle")
    {W9 : Nat} {Pre : Pt → Array Value → Prop} {Post : Pt → Array Value → Option Value → Pt → Prop} (hK : Back l R p e below s args y 3 W9 Pre Post)
    {b : Addr} {cellB : Cell} (hcell : T.heap[b]? = some cellB) (hobj : cellB.vm.isStatics = false) (hcls : s.vm.findClass C = some cellB.cls)
    {g : JFrame} (hg : g.method = m) (hsize : g.locals.size = c.maxLocals) {argsL rest : List Value} (hlen : ∀ sig, parseMethodDescriptor y.desc = some sig → argsL.length = sig.parameters.length)
    (hstack : g.stack = argsL.reverse ++ .ref b :: rest) (hW : 2 * g.monitorRoom + (rest.map fun v => v.category).sum ≤ W9) (hdg : decode c.code g.pc = .ok (.invokevirtual index, 3))
    (hpre : ∀ vm₁, s.WarmedH vm₁ → Pre ⟨T.setVm vm₁, locs, cells, slots⟩ (Value.ref b :: argsL).toArray) :
    ∃ (v : Option Value) (vm₁ : Vm) (B : Pt), s.WarmedH vm₁ ∧ Stand p l e R s m args below meth c B.U B.locs B.cells B.slots ∧ Post ⟨T.setVm vm₁, locs, cells, slots⟩ (Value.ref b :: argsL).toArray v B ∧
      ∀ target, Steps p.tables e below (B.U.setTop { g with pc := g.pc + 3, stack := v.toList ++ rest }) target → Steps p.tables e below (T.setTop g) target := by
  obtain ⟨mk, methM, hnamed, hmethM, hstM, habM⟩ := Cond.instanceMethod_spec hinst
  obtain ⟨m8, methM', cM, hn8, hmethM', -, -, -, -, -, -, hsigM⟩ := Cond.codeWith_spec hcode
  cases Option.some.inj (hn8.symm.trans hnamed)
  cases hmethM.symm.trans hmethM'
  obtain ⟨c2, r2, m2, q1, q2, q3, q4, kP, hkP, hkPi⟩ := Cond.selects_spec hsel
  cases hcls.symm.trans q1
  cases (State.methodFound?_of_named hnamed hy).symm.trans q2
  cases hnamed.symm.trans q3
  have hselP : selectMethod e.platform s.vm cellB.cls mk = .method mk := by rw [Launch.admits_selectMethod X.admits]; exact q4
  obtain ⟨vm₁, X₁, hstep₁⟩ := X.invokevirtual hexec hown hlink hnamed hmethM hstM hkP hkPi hy (a := b) (cell := cellB) hcell
    (fun z h => by rw [h] at hobj; cases hobj) hselP hmethM habM hkP hkPi (g := g) hg (argsL := argsL) (rest := rest) (hlen _ hsigM) hstack hdg
  obtain ⟨v, B, X', hpost, hsteps⟩ := hK m meth c ⟨T.setVm vm₁, locs, cells, slots⟩ { g with stack := rest } (.invokevirtual index) mk (Value.ref b :: argsL).toArray X₁ hg hsize hdg hW (X₁.named hnamed) (hpre vm₁ X₁.warmed)
  exact ⟨v, vm₁, B, X₁.warmed, X', hpost, fun target h => hstep₁ _ fun acts => by rw [doInvoke_state]; exact hsteps.trans h⟩
abbrev vx_CVW (R : Room) (s : State) (args : Array Value) (own C : String) (index : Nat) (y : MethodName) (bytes : ByteArray) (maxL : Nat) (ret : Option FieldType) (hh : List (Nat × Nat × Nat × Nat)) (ws : List Cond) (rm : Room) (mc ms n : Nat) : Prop :=
  (rm.cells = mc ∧ rm.slots = ms ∧ rm.frames + 1 ≤ R.frames ∧ 8 + (maxL + 11) + rm.locals ≤ R.locals ∧ (∀ w ∈ ws, ∀ (a' : Array Value) (U : State), s.WarmedH U.vm → w.before a' U = true) ∧ Cond.codeWith y bytes maxL ret hh ∈ ws) ∧
  (Cond.codeWith y bytes maxL ret hh).before args s = true ∧ (Cond.initialized y.cls).before args s = true ∧ (y.cls ≠ "java/lang/invoke/MethodHandle" ∧ y.cls ≠ "java/lang/invoke/VarHandle") ∧
  (∀ sig, parseMethodDescriptor y.desc = some sig → n = sig.parameters.length) ∧ (Cond.methodLink own index y).before args s = true ∧ (Cond.instanceMethod y).before args s = true ∧ (Cond.selects C y y).before args s = true
theorem vx_cwVW {own C : String} {index maxL mc ms : Nat} {y : MethodName} {bytes : ByteArray} {ret : Option FieldType} {hh : List (Nat × Nat × Nat × Nat)} {Ts ws ws' : List Cond} {rm : Room} (n : Nat) (ht : ∀ w ∈ Ts, w.before args s = true) (hT : GoodIn Ts (wsV own index C y ws)) (hw : ws = Cond.codeWith y bytes maxL ret hh :: ws') (hrc : rm.cells = mc) (hrs : rm.slots = ms)
    (hd : y.cls = C ∧ y.cls ≠ "java/lang/invoke/MethodHandle" ∧ y.cls ≠ "java/lang/invoke/VarHandle" ∧ (parseMethodDescriptor y.desc).map (fun d => d.parameters.length) = some n) (hR : rm.frames + 1 ≤ R.frames ∧ 8 + (maxL + 11) + rm.locals ≤ R.locals) :
    vx_CVW R s args own C index y bytes maxL ret hh ws rm mc ms n := by
  obtain ⟨hC, hd⟩ := hd
  subst hC
  have ok : ∀ w ∈ wsV own index y.cls y ws, w.before args s = true := fun w h => ht w (hT w h).1
  have hG : GoodIn Ts ws := fun w h => hT w (by unfold wsV; exact List.mem_append_right _ h)
  have hc : Cond.codeWith y bytes maxL ret hh ∈ ws := by rw [hw]; exact List.mem_cons_self
  refine ⟨⟨hrc, hrs, hR.1, hR.2, pay_in ht hG, hc⟩, ht _ (hG _ hc).1, ok _ (by simp [wsV]), ⟨hd.1, hd.2.1⟩, fun sig h => ?_, ok _ (by simp [wsV]), ok _ (by simp [wsV]), ok _ (by simp [wsV])⟩
  have h2 := hd.2.2
  rw [h] at h2
  exact (Option.some.inj h2).symm
theorem vx_runVW {y : MethodName} {bytes cc : ByteArray} {maxL nL mc ms n index : Nat} {ret : Option FieldType} {hh : List (Nat × Nat × Nat × Nat)} {ws : List Cond} {rm : Room} {Pc : Array Value → State → Prop} {Qc : Array Value → State → Outcome → State → Prop} {free : Addr → Prop} {Ts : List Cond} {own C : String} {b : Addr} {As rest : List Value} {g : JFrame}
    (S : CallFix p m c cc nL s args Ts own) (hM : Met l y ws rm Pc Qc mc ms free) (cw : vx_CVW R s args own C index y bytes maxL ret hh ws rm mc ms n) (hp : PreV s H C b Pc As)
    (hg : g.method = m) (hn : As.length = n) (hsize : g.locals.size = nL) (hstack : g.stack = As.reverse ++ .ref b :: rest) (hW : 2 * g.monitorRoom + (rest.map fun v => v.category).sum ≤ 8) (hdg : decode cc g.pc = .ok (.invokevirtual index, 3)) (hf : cells + mc ≤ R.cells ∧ slots + ms ≤ R.slots) :
    va_Run p l e R s m args below meth c H locs cells slots mc ms g rest (Qc (Value.ref b :: As).toArray) free := by
  obtain ⟨⟨hrc, hrs, hfr, hlo, hws, hcw⟩, hcode, hini, hy, hlen, hl, hin, hse⟩ := cw
  have hK : Back l R p e below s args y 3 8 (PreOf R mc ms Pc) (PostOf Qc mc ms free) := va_backW (hh := hh) (bytes := bytes) (maxL := maxL) (ret := ret) hM hp.1 hrc hrs hfr hlo hws hcw (fun a' U hW => word_at hW (Or.inl (by first | rfl | simp [Cond.onTables, Cond.keeps, Cond.steady])) hini)
  obtain ⟨hx, hb, hml, ho, -⟩ := S
  obtain ⟨-, ⟨cellB, hcB, hoB, hclB⟩, hPc⟩ := hp
  intro T hT X
  obtain ⟨v, vm₁, ⟨U', l2, c2, s2⟩, hW₁, X', ⟨g', mk, t, L, e1, e2, hq, h1, hL, h2, h3⟩, st⟩ := vx_callVW X hx (C := C) (hh := hh) (bytes := bytes) (maxL := maxL) (ret := ret) ho hl hin hse hcode hy hK (by rw [hT]; exact hcB) hoB hclB hg (hsize.trans hml.symm) (argsL := As) (rest := rest) (fun sig h => hn.trans (hlen sig h)) hstack hW (by rw [hb]; exact hdg)
    (fun vm₁ hW₁ => ⟨hf.1, hf.2, hPc (T.setVm vm₁) hT hW₁⟩)
  dsimp only [Pt.U, Pt.locs, Pt.cells, Pt.slots] at X' e1 e2 h1 h2 h3 st
  subst h1; subst h2; subst h3
  exact ⟨v, (T.setVm vm₁).calling g' mk (Value.ref b :: As).toArray, t, U', L, hT, X', hL, e1, e2, hq, st⟩
section
variable {y : MethodName} {bytes cc : ByteArray} {maxL nL mc ms n index : Nat} {ret : Option FieldType} {ws : List Cond} {rm : Room} {Pc : Array Value → State → Prop} {Qc : Array Value → State → Outcome → State → Prop} {XC : String → State → State → Prop} {free : Addr → Prop} {Ts : List Cond} {own C : String} {b : Addr} {As rest : List Value} {g : JFrame}
theorem vx_runVX {hh : List (Nat × Nat × Nat × Nat)} (S : CallFix p m c cc nL s args Ts own) (hM : vx_Met l y ws rm Pc Qc XC mc ms free) (cw : vx_CVW R s args own C index y bytes maxL ret hh ws rm mc ms n) (hp : PreV s H C b Pc As)
    (hg : g.method = m) (hn : As.length = n) (hsize : g.locals.size = nL) (hstack : g.stack = As.reverse ++ .ref b :: rest) (hW : 2 * g.monitorRoom + (rest.map fun v => v.category).sum ≤ 8) (hdg : decode cc g.pc = .ok (.invokevirtual index, 3)) (hf : cells + mc ≤ R.cells ∧ slots + ms ≤ R.slots) :
    vx_Run p l e R s m args below meth c H locs cells slots mc ms g rest (Qc (Value.ref b :: As).toArray) XC free := by
  obtain ⟨⟨hrc, hrs, hfr, hlo, hws, hcw⟩, hcode, hini, hy, hlen, hl, hin, hse⟩ := cw
  have hK : vx_Back l R p e below s args y 3 8 (PreOf R mc ms Pc) (PostOf Qc mc ms free) (vx_Post XC mc ms free) := vx_backW (hh := hh) (bytes := bytes) (maxL := maxL) (ret := ret) hM hp.1 hrc hrs hfr hlo hws hcw (fun a' U hW => word_at hW (Or.inl (by first | rfl | simp [Cond.onTables, Cond.keeps, Cond.steady])) hini)
  obtain ⟨hx, hb, hml, ho, -⟩ := S
  obtain ⟨-, ⟨cellB, hcB, hoB, hclB⟩, hPc⟩ := hp
  intro T hT X
  rcases vx_callVX X hx (C := C) (hh := hh) (bytes := bytes) (maxL := maxL) (ret := ret) ho hl hin hse hcode hy hK (by rw [hT]; exact hcB) hoB hclB hg (hsize.trans hml.symm) (argsL := As) (rest := rest) (fun sig h => hn.trans (hlen sig h)) hstack hW (by rw [hb]; exact hdg)
    (fun vm₁ hW₁ => ⟨hf.1, hf.2, hPc (T.setVm vm₁) hT hW₁⟩) with ⟨v, vm₁, ⟨U', l2, c2, s2⟩, hW₁, X', ⟨g', mk, t, L, e1, e2, hq, h1, hL, h2, h3⟩, st⟩ | ⟨q, vm₁, ⟨U', l2, c2, s2⟩, hW₁, X', ⟨g', mk, t, L, E, ce, e1, e2, hq, hce, hcv, hcl, h1, hL, h2, h3⟩, st⟩
  · dsimp only [Pt.U, Pt.locs, Pt.cells, Pt.slots] at X' e1 e2 h1 h2 h3 st
    subst h1; subst h2; subst h3
    exact Or.inl ⟨v, (T.setVm vm₁).calling g' mk (Value.ref b :: As).toArray, t, U', L, hT, X', hL, e1, e2, hq, st⟩
  · dsimp only [Pt.U, Pt.locs, Pt.cells, Pt.slots] at X' e1 e2 h1 h2 h3 st hcl
    subst h1; subst h2; subst h3
    exact Or.inr ⟨q, (T.setVm vm₁).calling g' mk (Value.ref b :: As).toArray, t, U', L, E, ce, hT, X', hL, e1, e2, hq, hce, hcv, vx_cls hW₁ hcl, st⟩
theorem vx_runSX {hh : List (Nat × Nat × Nat × Nat)} (S : CallFix p m c cc nL s args Ts own) (hM : vx_Met l y ws rm Pc Qc XC mc ms free) (cw : vx_CSW R s args own index y bytes maxL ret hh ws rm mc ms n) (hp : PreS s H Pc As)
    (hg : g.method = m) (hn : As.length = n) (hsize : g.locals.size = nL) (hstack : g.stack = As.reverse ++ rest) (hW : 2 * g.monitorRoom + (rest.map fun v => v.category).sum ≤ 8) (hdg : decode cc g.pc = .ok (.invokestatic index, 3)) (hf : cells + mc ≤ R.cells ∧ slots + ms ≤ R.slots) :
    vx_Run p l e R s m args below meth c H locs cells slots mc ms g rest (Qc As.toArray) XC free := by
  obtain ⟨⟨hrc, hrs, hfr, hlo, hws, hcw⟩, hcode, hini, hy, hlen, hl, hstt⟩ := cw
  have hK : vx_Back l R p e below s args y 3 8 (PreOf R mc ms Pc) (PostOf Qc mc ms free) (vx_Post XC mc ms free) := vx_backW (hh := hh) (bytes := bytes) (maxL := maxL) (ret := ret) hM hp.1 hrc hrs hfr hlo hws hcw (fun a' U hW => word_at hW (Or.inl (by first | rfl | simp [Cond.onTables, Cond.keeps, Cond.steady])) hini)
  obtain ⟨hx, hb, hml, ho, -⟩ := S
  intro T hT X
  rcases vx_callSX X hx (hh := hh) (bytes := bytes) (maxL := maxL) (ret := ret) ho hl hstt hini hcode hy hK hg (hsize.trans hml.symm) (argsL := As) (rest := rest) (fun sig h => hn.trans (hlen sig h)) hstack hW (by rw [hb]; exact hdg)
    (fun vm₁ hW₁ => ⟨hf.1, hf.2, hp.2 (T.setVm vm₁) hT hW₁⟩) with ⟨v, vm₁, ⟨U', l2, c2, s2⟩, hW₁, X', ⟨g', mk, t, L, e1, e2, hq, h1, hL, h2, h3⟩, st⟩ | ⟨q, vm₁, ⟨U', l2, c2, s2⟩, hW₁, X', ⟨g', mk, t, L, E, ce, e1, e2, hq, hce, hcv, hcl, h1, hL, h2, h3⟩, st⟩
  · dsimp only [Pt.U, Pt.locs, Pt.cells, Pt.slots] at X' e1 e2 h1 h2 h3 st
    subst h1; subst h2; subst h3
    exact Or.inl ⟨v, (T.setVm vm₁).calling g' mk As.toArray, t, U', L, hT, X', hL, e1, e2, hq, st⟩
  · dsimp only [Pt.U, Pt.locs, Pt.cells, Pt.slots] at X' e1 e2 h1 h2 h3 st hcl
    subst h1; subst h2; subst h3
    exact Or.inr ⟨q, (T.setVm vm₁).calling g' mk As.toArray, t, U', L, E, ce, hT, X', hL, e1, e2, hq, hce, hcv, vx_cls hW₁ hcl, st⟩
end
end VXH
theorem vx_ofWH {l : Launch} {y : MethodName} {ws ws' : List Cond} {rm : Room} {Pc : Array Value → State → Prop} {Qc : Array Value → State → Outcome → State → Prop} {XC : String → State → State → Prop} {mc ms : Nat} {free : Addr → Prop} {cc : ByteArray} {maxL : Nat} {ret : Option FieldType} {hh : List (Nat × Nat × Nat × Nat)}
    (hy : plainName y.cls = true) (hw : ws = Cond.codeWith y cc maxL ret hh :: ws')
    (body : ∀ p e s m args below meth c s₁, BodyLoose p l y (headSpec ws rm) cc maxL ret e s m args below meth c s₁ → c.maxLocals = maxL → Pc args s →
      W p l e (headSpec ws rm).room s m args below meth c s.heap [] 0 0 (vx_MQ below Qc XC args s mc ms free) (entryFrame m args maxL)) : vx_Met l y ws rm Pc Qc XC mc ms free := by
  refine MetFree.of_bodyS (code := cc) (maxLocals := maxL) (ret := ret) hy ?_ ?_
  · intro args s m h hn
    obtain ⟨m9, meth, c, hn9, h1, h2, h3, h4, -, h5, h6, -⟩ := Cond.codeWith_spec (atoms_spec (ws := ws) h _ (by rw [hw]; exact List.mem_cons_self))
    cases hn.symm.trans hn9
    exact ⟨meth, c, h1, h2, h3, h4, h5, h6⟩
  · intro p e s m args below meth c s₁ B hml hP _
    have hh0 : s₁.heap = s.heap := by rw [B.state]; rfl
    obtain ⟨t, a1, o, b1, b2, b3⟩ := body p e s m args below meth c s₁ B hml hP s₁ hh0 (Stand.of_body B)
    exact ⟨t, o, a1, b1, b2, b3⟩
/-! ===== END ===== -/
end
section
/-! NAMES: classes, fields, methods: by wip/whole/gen/names.py out of the Statement -/
def nc_F : String := "KeyedFolds$Fold"
def nf_F : u_T := fun k => match k with
  | 0 => ("KeyedFolds$Fold", "kind", "I", true)
  | 1 => ("KeyedFolds$Fold", "start", "J", true)
  | 2 => ("KeyedFolds$Fold", "p", "J", true)
  | 3 => ("KeyedFolds$Fold", "failingCount", "I", false)
  | _ => ("KeyedFolds$Fold", "failing", "[J", true)
def nt_F : Nat → FieldType := fun k => match k with
  | 0 => .int
  | 1 => .long
  | 2 => .long
  | 3 => .int
  | _ => .array .long
theorem nn_F : ∀ a, a < 5 → ∀ b, b < 5 → a ≠ b → (nf_F a).2.1 ≠ (nf_F b).2.1 := by decide +kernel
theorem no_F : ∀ k, k < 5 → parseFieldDescriptor (nf_F k).2.2.1 = some (nt_F k) := by decide +kernel
def nc_R : String := "KeyedFolds$KeyRows"
def nf_R : u_T := fun k => match k with
  | 0 => ("KeyedFolds$KeyRows", "name", "J", true)
  | 1 => ("KeyedFolds$KeyRows", "times", "[J", true)
  | 2 => ("KeyedFolds$KeyRows", "values", "[J", true)
  | 3 => ("KeyedFolds$KeyRows", "states", "[J", true)
  | 4 => ("KeyedFolds$KeyRows", "count", "I", false)
  | 5 => ("KeyedFolds$KeyRows", "work", "I", false)
  | _ => ("KeyedFolds$KeyRows", "folds", "Ljava/util/ArrayList;", true)
def nt_R : Nat → FieldType := fun k => match k with
  | 0 => .long
  | 1 => .array .long
  | 2 => .array .long
  | 3 => .array .long
  | 4 => .int
  | 5 => .int
  | _ => .object "java/util/ArrayList"
theorem nn_R : ∀ a, a < 7 → ∀ b, b < 7 → a ≠ b → (nf_R a).2.1 ≠ (nf_R b).2.1 := by decide +kernel
theorem no_R : ∀ k, k < 7 → parseFieldDescriptor (nf_R k).2.2.1 = some (nt_R k) := by decide +kernel
def nc_S : String := "KeyedFolds$StoppedKeys"
def nf_S : u_T := fun k => match k with
  | 0 => ("KeyedFolds$StoppedKeys", "names", "[J", true)
  | _ => ("KeyedFolds$StoppedKeys", "count", "I", false)
def nt_S : Nat → FieldType := fun k => match k with
  | 0 => .array .long
  | _ => .int
theorem nn_S : ∀ a, a < 2 → ∀ b, b < 2 → a ≠ b → (nf_S a).2.1 ≠ (nf_S b).2.1 := by decide +kernel
theorem no_S : ∀ k, k < 2 → parseFieldDescriptor (nf_S k).2.2.1 = some (nt_S k) := by decide +kernel
def nc_T : String := "KeyedFolds$Table"
def nf_T : u_T := fun k => match k with
  | 0 => ("KeyedFolds$Table", "counted", "I", false)
  | 1 => ("KeyedFolds$Table", "limit", "I", true)
  | 2 => ("KeyedFolds$Table", "width", "I", true)
  | _ => ("KeyedFolds$Table", "cells", "[J", true)
def nt_T : Nat → FieldType := fun k => match k with
  | 0 => .int
  | 1 => .int
  | 2 => .int
  | _ => .array .long
theorem nn_T : ∀ a, a < 4 → ∀ b, b < 4 → a ≠ b → (nf_T a).2.1 ≠ (nf_T b).2.1 := by decide +kernel
theorem no_T : ∀ k, k < 4 → parseFieldDescriptor (nf_T k).2.2.1 = some (nt_T k) := by decide +kernel
def nc_K : String := "KeyedFolds"
def nf_K : u_T := fun k => match k with
  | 0 => ("KeyedFolds", "lateness", "I", true)
  | 1 => ("KeyedFolds", "window", "I", true)
  | 2 => ("KeyedFolds", "ends", "I", true)
  | 3 => ("KeyedFolds", "period", "I", true)
  | 4 => ("KeyedFolds", "folds", "Ljava/util/ArrayList;", true)
  | 5 => ("KeyedFolds", "keys", "Ljava/util/ArrayList;", true)
  | 6 => ("KeyedFolds", "stoppedKeys", "LKeyedFolds$StoppedKeys;", true)
  | 7 => ("KeyedFolds", "asides", "LKeyedFolds$Table;", true)
  | 8 => ("KeyedFolds", "outputs", "LKeyedFolds$Table;", true)
  | 9 => ("KeyedFolds", "lateRule", "I", false)
  | 10 => ("KeyedFolds", "failingRule", "I", false)
  | 11 => ("KeyedFolds", "greatestTime", "J", false)
  | 12 => ("KeyedFolds", "latestTimer", "J", false)
  | 13 => ("KeyedFolds", "takenRows", "I", false)
  | 14 => ("KeyedFolds", "lateRows", "I", false)
  | 15 => ("KeyedFolds", "doubleRows", "I", false)
  | 16 => ("KeyedFolds", "failedRows", "I", false)
  | _ => ("KeyedFolds", "leftRows", "I", false)
def nt_K : Nat → FieldType := fun k => match k with
  | 0 => .int
  | 1 => .int
  | 2 => .int
  | 3 => .int
  | 4 => .object "java/util/ArrayList"
  | 5 => .object "java/util/ArrayList"
  | 6 => .object "KeyedFolds$StoppedKeys"
  | 7 => .object "KeyedFolds$Table"
  | 8 => .object "KeyedFolds$Table"
  | 9 => .int
  | 10 => .int
  | 11 => .long
  | 12 => .long
  | 13 => .int
  | 14 => .int
  | 15 => .int
  | 16 => .int
  | _ => .int
theorem nn_K : ∀ a, a < 18 → ∀ b, b < 18 → a ≠ b → (nf_K a).2.1 ≠ (nf_K b).2.1 := by decide +kernel
theorem no_K : ∀ k, k < 18 → parseFieldDescriptor (nf_K k).2.2.1 = some (nt_K k) := by decide +kernel
def nc_M : String := "KeyedFoldsModel"
def nf_M : u_T := fun k => match k with
  | 0 => ("KeyedFoldsModel", "lateness", "I", true)
  | 1 => ("KeyedFoldsModel", "window", "I", true)
  | 2 => ("KeyedFoldsModel", "ends", "I", true)
  | 3 => ("KeyedFoldsModel", "period", "I", true)
  | 4 => ("KeyedFoldsModel", "code", "I", false)
  | 5 => ("KeyedFoldsModel", "folds", "I", false)
  | 6 => ("KeyedFoldsModel", "kinds", "[I", true)
  | 7 => ("KeyedFoldsModel", "starts", "[J", true)
  | 8 => ("KeyedFoldsModel", "numbers", "[J", true)
  | 9 => ("KeyedFoldsModel", "failing", "[I", true)
  | 10 => ("KeyedFoldsModel", "fails", "[J", true)
  | 11 => ("KeyedFoldsModel", "lateRule", "I", false)
  | 12 => ("KeyedFoldsModel", "failRule", "I", false)
  | 13 => ("KeyedFoldsModel", "keys", "I", false)
  | 14 => ("KeyedFoldsModel", "names", "[J", true)
  | 15 => ("KeyedFoldsModel", "sizes", "[I", true)
  | 16 => ("KeyedFoldsModel", "works", "[I", true)
  | 17 => ("KeyedFoldsModel", "times", "[J", true)
  | 18 => ("KeyedFoldsModel", "values", "[J", true)
  | 19 => ("KeyedFoldsModel", "stops", "I", false)
  | 20 => ("KeyedFoldsModel", "stopped", "[J", true)
  | 21 => ("KeyedFoldsModel", "isMark", "Z", false)
  | 22 => ("KeyedFoldsModel", "mark", "J", false)
  | 23 => ("KeyedFoldsModel", "done", "J", false)
  | 24 => ("KeyedFoldsModel", "asides", "I", false)
  | 25 => ("KeyedFoldsModel", "aside", "[J", true)
  | 26 => ("KeyedFoldsModel", "outputs", "I", false)
  | 27 => ("KeyedFoldsModel", "output", "[J", true)
  | 28 => ("KeyedFoldsModel", "taken", "I", false)
  | 29 => ("KeyedFoldsModel", "late", "I", false)
  | 30 => ("KeyedFoldsModel", "doubles", "I", false)
  | 31 => ("KeyedFoldsModel", "failed", "I", false)
  | _ => ("KeyedFoldsModel", "left", "I", false)
def nt_M : Nat → FieldType := fun k => match k with
  | 0 => .int
  | 1 => .int
  | 2 => .int
  | 3 => .int
  | 4 => .int
  | 5 => .int
  | 6 => .array .int
  | 7 => .array .long
  | 8 => .array .long
  | 9 => .array .int
  | 10 => .array .long
  | 11 => .int
  | 12 => .int
  | 13 => .int
  | 14 => .array .long
  | 15 => .array .int
  | 16 => .array .int
  | 17 => .array .long
  | 18 => .array .long
  | 19 => .int
  | 20 => .array .long
  | 21 => .boolean
  | 22 => .long
  | 23 => .long
  | 24 => .int
  | 25 => .array .long
  | 26 => .int
  | 27 => .array .long
  | 28 => .int
  | 29 => .int
  | 30 => .int
  | 31 => .int
  | _ => .int
theorem nn_M : ∀ a, a < 33 → ∀ b, b < 33 → a ≠ b → (nf_M a).2.1 ≠ (nf_M b).2.1 := by decide +kernel
theorem no_M : ∀ k, k < 33 → parseFieldDescriptor (nf_M k).2.2.1 = some (nt_M k) := by decide +kernel
def nc_A : String := "java/util/ArrayList"
def nf_A : u_T := fun k => match k with
  | 0 => ("java/util/AbstractList", "modCount", "I", false)
  | 1 => ("java/util/ArrayList", "elementData", "[Ljava/lang/Object;", false)
  | _ => ("java/util/ArrayList", "size", "I", false)
def nt_A : Nat → FieldType := fun k => match k with
  | 0 => .int
  | 1 => .array (.object "java/lang/Object")
  | _ => .int
theorem nn_A : ∀ a, a < 3 → ∀ b, b < 3 → a ≠ b → (nf_A a).2.1 ≠ (nf_A b).2.1 := by decide +kernel
theorem no_A : ∀ k, k < 3 → parseFieldDescriptor (nf_A k).2.2.1 = some (nt_A k) := by decide +kernel
abbrev vwCl : List vw_C := [(nc_F, nf_F, 5), (nc_R, nf_R, 7), (nc_S, nf_S, 2), (nc_T, nf_T, 4), (nc_K, nf_K, 18), (nc_M, nf_M, 33), (nc_A, nf_A, 3)]
def jx_tb : List Cond := lw_tbl.filter goodWord
theorem jx_good : ∀ w ∈ jx_tb, (w.onTables && w.keeps) = true ∨ ∃ ty, w = .arrayClass ty := fun w h => good_of_word (List.mem_filter.mp h).2
theorem jx_mem {w : Cond} (i : Nat) (h : tables_1[i]? = some w) (hg : goodWord w = true) : w ∈ jx_tb := List.mem_filter.mpr ⟨List.mem_append_right _ (List.mem_of_getElem? h), hg⟩
theorem jx_memp {w : Cond} (i : Nat) (h : (k2_sels lw_privs)[i]? = some w) (hg : goodWord w = true) : w ∈ jx_tb := List.mem_filter.mpr ⟨List.mem_append_left _ (List.mem_of_getElem? h), hg⟩
theorem nw_F : ∀ w ∈ u_ws nc_F nf_F 5, w ∈ jx_tb := by decide +kernel
theorem nw_R : ∀ w ∈ u_ws nc_R nf_R 7, w ∈ jx_tb := by decide +kernel
theorem nw_S : ∀ w ∈ u_ws nc_S nf_S 2, w ∈ jx_tb := by decide +kernel
theorem nw_T : ∀ w ∈ u_ws nc_T nf_T 4, w ∈ jx_tb := by decide +kernel
theorem nw_K : ∀ w ∈ u_ws nc_K nf_K 18, w ∈ jx_tb := by decide +kernel
theorem nw_M : ∀ w ∈ u_ws nc_M nf_M 33, w ∈ jx_tb := by decide +kernel
theorem nw_A : ∀ w ∈ u_ws nc_A nf_A 3, w ∈ jx_tb := by decide +kernel
abbrev md_K_init : MethodName × ByteArray × Nat × Option FieldType := (⟨"KeyedFolds", "<init>", "(IIII)V"⟩, prog_1_method_1_code, 5, (Option.none : Option FieldType))
abbrev md_O_init : MethodName × ByteArray × Nat × Option FieldType := (⟨"java/lang/Object", "<init>", "()V"⟩, object_method_1_code, 1, (Option.none : Option FieldType))
abbrev md_A_init : MethodName × ByteArray × Nat × Option FieldType := (⟨"java/util/ArrayList", "<init>", "()V"⟩, prog_22_method_2_code, 1, (Option.none : Option FieldType))
abbrev md_AL_init : MethodName × ByteArray × Nat × Option FieldType := (⟨"java/util/AbstractList", "<init>", "()V"⟩, prog_21_method_1_code, 1, (Option.none : Option FieldType))
abbrev md_AC_init : MethodName × ByteArray × Nat × Option FieldType := (⟨"java/util/AbstractCollection", "<init>", "()V"⟩, prog_20_method_1_code, 1, (Option.none : Option FieldType))
abbrev md_S_init : MethodName × ByteArray × Nat × Option FieldType := (⟨"KeyedFolds$StoppedKeys", "<init>", "()V"⟩, prog_4_method_1_code, 1, (Option.none : Option FieldType))
abbrev md_T_init : MethodName × ByteArray × Nat × Option FieldType := (⟨"KeyedFolds$Table", "<init>", "(II)V"⟩, prog_5_method_1_code, 3, (Option.none : Option FieldType))
abbrev md_K_withinSettings : MethodName × ByteArray × Nat × Option FieldType := (⟨"KeyedFolds", "withinSettings", "(I)I"⟩, prog_1_method_16_code, 1, (Option.some FieldType.int))
abbrev md_MA_min : MethodName × ByteArray × Nat × Option FieldType := (⟨"java/lang/Math", "min", "(II)I"⟩, prog_15_method_69_code, 2, (Option.some FieldType.int))
abbrev md_MA_max : MethodName × ByteArray × Nat × Option FieldType := (⟨"java/lang/Math", "max", "(II)I"⟩, prog_15_method_65_code, 2, (Option.some FieldType.int))
abbrev md_L_cell : MethodName × ByteArray × Nat × Option FieldType := (⟨"KeyedFoldsLaw", "cell", "([II)I"⟩, method_2_code, 2, (Option.some FieldType.int))
abbrev md_L_fold : MethodName × ByteArray × Nat × Option FieldType := (⟨"KeyedFoldsLaw", "fold", "(LKeyedFolds;IJJ[J)I"⟩, method_3_code, 8, (Option.some FieldType.int))
abbrev mh_L_fold : List (Nat × Nat × Nat × Nat) := [(0, 13, 16, 13), (0, 13, 20, 15)]
abbrev md_K_fold : MethodName × ByteArray × Nat × Option FieldType := (⟨"KeyedFolds", "fold", "(IJJ)I"⟩, prog_1_method_2_code, 6, (Option.some FieldType.int))
abbrev md_TH_init : MethodName × ByteArray × Nat × Option FieldType := (⟨"java/lang/Throwable", "<init>", "()V"⟩, prog_19_method_1_code, 1, (Option.none : Option FieldType))
abbrev md_TH_init2 : MethodName × ByteArray × Nat × Option FieldType := (⟨"java/lang/Throwable", "<init>", "(Ljava/lang/String;)V"⟩, prog_19_method_2_code, 2, (Option.none : Option FieldType))
abbrev md_A_size : MethodName × ByteArray × Nat × Option FieldType := (⟨"java/util/ArrayList", "size", "()I"⟩, prog_22_method_8_code, 1, (Option.some FieldType.int))
abbrev md_F_init : MethodName × ByteArray × Nat × Option FieldType := (⟨"KeyedFolds$Fold", "<init>", "(IJJ)V"⟩, prog_2_method_1_code, 6, (Option.none : Option FieldType))
abbrev md_A_add : MethodName × ByteArray × Nat × Option FieldType := (⟨"java/util/ArrayList", "add", "(Ljava/lang/Object;)Z"⟩, prog_22_method_25_code, 2, (Option.some FieldType.boolean))
abbrev md_A_add2 : MethodName × ByteArray × Nat × Option FieldType := (⟨"java/util/ArrayList", "add", "(Ljava/lang/Object;[Ljava/lang/Object;I)V"⟩, prog_22_method_24_code, 4, (Option.none : Option FieldType))
abbrev md_A_grow : MethodName × ByteArray × Nat × Option FieldType := (⟨"java/util/ArrayList", "grow", "()[Ljava/lang/Object;"⟩, prog_22_method_7_code, 1, (Option.some (FieldType.array (FieldType.object "java/lang/Object"))))
abbrev md_A_grow2 : MethodName × ByteArray × Nat × Option FieldType := (⟨"java/util/ArrayList", "grow", "(I)[Ljava/lang/Object;"⟩, prog_22_method_6_code, 4, (Option.some (FieldType.array (FieldType.object "java/lang/Object"))))
abbrev md_AS_newLength : MethodName × ByteArray × Nat × Option FieldType := (⟨"jdk/internal/util/ArraysSupport", "newLength", "(III)I"⟩, prog_29_method_27_code, 4, (Option.some FieldType.int))
abbrev md_AS_hugeLength : MethodName × ByteArray × Nat × Option FieldType := (⟨"jdk/internal/util/ArraysSupport", "hugeLength", "(II)I"⟩, prog_29_method_28_code, 3, (Option.some FieldType.int))
abbrev md_AR_copyOf : MethodName × ByteArray × Nat × Option FieldType := (⟨"java/util/Arrays", "copyOf", "([Ljava/lang/Object;I)[Ljava/lang/Object;"⟩, prog_23_method_119_code, 2, (Option.some (FieldType.array (FieldType.object "java/lang/Object"))))
abbrev md_AR_copyOf2 : MethodName × ByteArray × Nat × Option FieldType := (⟨"java/util/Arrays", "copyOf", "([Ljava/lang/Object;ILjava/lang/Class;)[Ljava/lang/Object;"⟩, prog_23_method_120_code, 4, (Option.some (FieldType.array (FieldType.object "java/lang/Object"))))
abbrev md_L_failsAt : MethodName × ByteArray × Nat × Option FieldType := (⟨"KeyedFoldsLaw", "failsAt", "(LKeyedFolds;IJ[J)I"⟩, method_4_code, 6, (Option.some FieldType.int))
abbrev mh_L_failsAt : List (Nat × Nat × Nat × Nat) := [(0, 11, 14, 21), (0, 11, 18, 15)]
abbrev md_K_failsAt : MethodName × ByteArray × Nat × Option FieldType := (⟨"KeyedFolds", "failsAt", "(IJ)I"⟩, prog_1_method_3_code, 5, (Option.some FieldType.int))
abbrev md_K_isFold : MethodName × ByteArray × Nat × Option FieldType := (⟨"KeyedFolds", "isFold", "(I)Z"⟩, prog_1_method_17_code, 2, (Option.some FieldType.boolean))
abbrev md_A_get : MethodName × ByteArray × Nat × Option FieldType := (⟨"java/util/ArrayList", "get", "(I)Ljava/lang/Object;"⟩, prog_22_method_20_code, 2, (Option.some (FieldType.object "java/lang/Object")))
abbrev md_OB_checkIndex : MethodName × ByteArray × Nat × Option FieldType := (⟨"java/util/Objects", "checkIndex", "(II)I"⟩, prog_26_method_17_code, 2, (Option.some FieldType.int))
abbrev md_PC_checkIndex : MethodName × ByteArray × Nat × Option FieldType := (⟨"jdk/internal/util/Preconditions", "checkIndex", "(IILjava/util/function/BiFunction;)I"⟩, prog_30_method_11_code, 3, (Option.some FieldType.int))
abbrev md_A_elementData : MethodName × ByteArray × Nat × Option FieldType := (⟨"java/util/ArrayList", "elementData", "(I)Ljava/lang/Object;"⟩, prog_22_method_18_code, 2, (Option.some (FieldType.object "java/lang/Object")))
abbrev md_F_isFailing : MethodName × ByteArray × Nat × Option FieldType := (⟨"KeyedFolds$Fold", "isFailing", "(J)Z"⟩, prog_2_method_4_code, 4, (Option.some FieldType.boolean))
abbrev md_F_addFailing : MethodName × ByteArray × Nat × Option FieldType := (⟨"KeyedFolds$Fold", "addFailing", "(J)V"⟩, prog_2_method_5_code, 3, (Option.none : Option FieldType))
abbrev md_L_rule : MethodName × ByteArray × Nat × Option FieldType := (⟨"KeyedFoldsLaw", "rule", "(LKeyedFolds;II[J)I"⟩, method_5_code, 5, (Option.some FieldType.int))
abbrev mh_L_rule : List (Nat × Nat × Nat × Nat) := [(0, 10, 13, 13)]
abbrev md_K_rule : MethodName × ByteArray × Nat × Option FieldType := (⟨"KeyedFolds", "rule", "(II)I"⟩, prog_1_method_4_code, 4, (Option.some FieldType.int))
abbrev md_L_row : MethodName × ByteArray × Nat × Option FieldType := (⟨"KeyedFoldsLaw", "row", "(LKeyedFolds;JJJ[J)I"⟩, method_6_code, 9, (Option.some FieldType.int))
abbrev mh_L_row : List (Nat × Nat × Nat × Nat) := [(0, 13, 16, 13), (0, 13, 20, 15)]
abbrev md_K_row : MethodName × ByteArray × Nat × Option FieldType := (⟨"KeyedFolds", "row", "(JJJ)I"⟩, prog_1_method_5_code, 8, (Option.some FieldType.int))
abbrev md_A_isEmpty : MethodName × ByteArray × Nat × Option FieldType := (⟨"java/util/ArrayList", "isEmpty", "()Z"⟩, prog_22_method_9_code, 1, (Option.some FieldType.boolean))
abbrev md_S_has : MethodName × ByteArray × Nat × Option FieldType := (⟨"KeyedFolds$StoppedKeys", "has", "(J)Z"⟩, prog_4_method_2_code, 3, (Option.some FieldType.boolean))
abbrev md_S_placeOf : MethodName × ByteArray × Nat × Option FieldType := (⟨"KeyedFolds$StoppedKeys", "placeOf", "(J)I"⟩, prog_4_method_5_code, 4, (Option.some FieldType.int))
abbrev md_K_codeOf : MethodName × ByteArray × Nat × Option FieldType := (⟨"KeyedFolds", "codeOf", "(JJJ)I"⟩, prog_1_method_22_code, 8, (Option.some FieldType.int))
abbrev md_K_isLate : MethodName × ByteArray × Nat × Option FieldType := (⟨"KeyedFolds", "isLate", "(J)Z"⟩, prog_1_method_21_code, 3, (Option.some FieldType.boolean))
abbrev md_K_hasWatermark : MethodName × ByteArray × Nat × Option FieldType := (⟨"KeyedFolds", "hasWatermark", "()Z"⟩, prog_1_method_19_code, 1, (Option.some FieldType.boolean))
abbrev md_K_watermarkTime : MethodName × ByteArray × Nat × Option FieldType := (⟨"KeyedFolds", "watermarkTime", "()J"⟩, prog_1_method_20_code, 1, (Option.some FieldType.long))
abbrev md_K_placeOfKey : MethodName × ByteArray × Nat × Option FieldType := (⟨"KeyedFolds", "placeOfKey", "(J)I"⟩, prog_1_method_18_code, 4, (Option.some FieldType.int))
abbrev md_R_hasNear : MethodName × ByteArray × Nat × Option FieldType := (⟨"KeyedFolds$KeyRows", "hasNear", "(JJI)Z"⟩, prog_3_method_2_code, 7, (Option.some FieldType.boolean))
abbrev md_MA_abs : MethodName × ByteArray × Nat × Option FieldType := (⟨"java/lang/Math", "abs", "(J)J"⟩, prog_15_method_61_code, 2, (Option.some FieldType.long))
abbrev md_K_causeOf : MethodName × ByteArray × Nat × Option FieldType := (⟨"KeyedFolds", "causeOf", "(J)I"⟩, prog_1_method_23_code, 4, (Option.some FieldType.int))
abbrev md_K_hasRoomFor : MethodName × ByteArray × Nat × Option FieldType := (⟨"KeyedFolds", "hasRoomFor", "(J)Z"⟩, prog_1_method_24_code, 4, (Option.some FieldType.boolean))
abbrev md_K_take : MethodName × ByteArray × Nat × Option FieldType := (⟨"KeyedFolds", "take", "(JJJ)V"⟩, prog_1_method_27_code, 8, (Option.none : Option FieldType))
abbrev md_K_startStates : MethodName × ByteArray × Nat × Option FieldType := (⟨"KeyedFolds", "startStates", "()[J"⟩, prog_1_method_28_code, 3, (Option.some (FieldType.array FieldType.long)))
abbrev md_R_init : MethodName × ByteArray × Nat × Option FieldType := (⟨"KeyedFolds$KeyRows", "<init>", "(JLjava/util/ArrayList;[J)V"⟩, prog_3_method_1_code, 5, (Option.none : Option FieldType))
abbrev md_R_take : MethodName × ByteArray × Nat × Option FieldType := (⟨"KeyedFolds$KeyRows", "take", "(JJ)V"⟩, prog_3_method_4_code, 9, (Option.none : Option FieldType))
abbrev md_R_countBelow : MethodName × ByteArray × Nat × Option FieldType := (⟨"KeyedFolds$KeyRows", "countBelow", "(J)I"⟩, prog_3_method_3_code, 4, (Option.some FieldType.int))
abbrev md_R_insert : MethodName × ByteArray × Nat × Option FieldType := (⟨"KeyedFolds$KeyRows", "insert", "(IJJ)V"⟩, prog_3_method_10_code, 7, (Option.none : Option FieldType))
abbrev md_F_mayBeJoined : MethodName × ByteArray × Nat × Option FieldType := (⟨"KeyedFolds$Fold", "mayBeJoined", "()Z"⟩, prog_2_method_2_code, 1, (Option.some FieldType.boolean))
abbrev md_F_canBeTakenBack : MethodName × ByteArray × Nat × Option FieldType := (⟨"KeyedFolds$Fold", "canBeTakenBack", "()Z"⟩, prog_2_method_3_code, 1, (Option.some FieldType.boolean))
abbrev md_R_stepAt : MethodName × ByteArray × Nat × Option FieldType := (⟨"KeyedFolds$KeyRows", "stepAt", "(ILKeyedFolds$Fold;J)J"⟩, prog_3_method_9_code, 7, (Option.some FieldType.long))
abbrev md_F_step : MethodName × ByteArray × Nat × Option FieldType := (⟨"KeyedFolds$Fold", "step", "(JJJZ)J"⟩, prog_2_method_6_code, 8, (Option.some FieldType.long))
abbrev md_R_stateOfFirst : MethodName × ByteArray × Nat × Option FieldType := (⟨"KeyedFolds$KeyRows", "stateOfFirst", "(ILKeyedFolds$Fold;)J"⟩, prog_3_method_6_code, 6, (Option.some FieldType.long))
abbrev md_MA_max2 : MethodName × ByteArray × Nat × Option FieldType := (⟨"java/lang/Math", "max", "(JJ)J"⟩, prog_15_method_66_code, 4, (Option.some FieldType.long))
abbrev md_K_letRowsLeave : MethodName × ByteArray × Nat × Option FieldType := (⟨"KeyedFolds", "letRowsLeave", "()V"⟩, prog_1_method_29_code, 2, (Option.none : Option FieldType))
abbrev md_R_leaveBelow : MethodName × ByteArray × Nat × Option FieldType := (⟨"KeyedFolds$KeyRows", "leaveBelow", "(J)I"⟩, prog_3_method_5_code, 4, (Option.some FieldType.int))
abbrev md_R_takeBackFirst : MethodName × ByteArray × Nat × Option FieldType := (⟨"KeyedFolds$KeyRows", "takeBackFirst", "(I)V"⟩, prog_3_method_11_code, 5, (Option.none : Option FieldType))
abbrev md_F_stepTakenBack : MethodName × ByteArray × Nat × Option FieldType := (⟨"KeyedFolds$Fold", "stepTakenBack", "(JJ)J"⟩, prog_2_method_7_code, 5, (Option.some FieldType.long))
abbrev md_R_removeFirst : MethodName × ByteArray × Nat × Option FieldType := (⟨"KeyedFolds$KeyRows", "removeFirst", "(I)V"⟩, prog_3_method_13_code, 3, (Option.none : Option FieldType))
abbrev md_R_foldTheOthersAnew : MethodName × ByteArray × Nat × Option FieldType := (⟨"KeyedFolds$KeyRows", "foldTheOthersAnew", "()V"⟩, prog_3_method_12_code, 3, (Option.none : Option FieldType))
abbrev md_K_doTimers : MethodName × ByteArray × Nat × Option FieldType := (⟨"KeyedFolds", "doTimers", "()V"⟩, prog_1_method_30_code, 7, (Option.none : Option FieldType))
abbrev md_MA_min2 : MethodName × ByteArray × Nat × Option FieldType := (⟨"java/lang/Math", "min", "(JJ)J"⟩, prog_15_method_70_code, 4, (Option.some FieldType.long))
abbrev md_K_tellStatesBelow : MethodName × ByteArray × Nat × Option FieldType := (⟨"KeyedFolds", "tellStatesBelow", "(J)V"⟩, prog_1_method_31_code, 6, (Option.none : Option FieldType))
abbrev md_K_putOut : MethodName × ByteArray × Nat × Option FieldType := (⟨"KeyedFolds", "putOut", "(JLKeyedFolds$KeyRows;I)V"⟩, prog_1_method_32_code, 7, (Option.none : Option FieldType))
abbrev md_T_addLine : MethodName × ByteArray × Nat × Option FieldType := (⟨"KeyedFolds$Table", "addLine", "()I"⟩, prog_5_method_3_code, 2, (Option.some FieldType.int))
abbrev md_T_set : MethodName × ByteArray × Nat × Option FieldType := (⟨"KeyedFolds$Table", "set", "(IIJ)V"⟩, prog_5_method_4_code, 5, (Option.none : Option FieldType))
abbrev md_K_turnAway : MethodName × ByteArray × Nat × Option FieldType := (⟨"KeyedFolds", "turnAway", "(IJJJ)V"⟩, prog_1_method_25_code, 8, (Option.none : Option FieldType))
abbrev md_K_putAside : MethodName × ByteArray × Nat × Option FieldType := (⟨"KeyedFolds", "putAside", "(JJJI)V"⟩, prog_1_method_26_code, 9, (Option.none : Option FieldType))
abbrev md_S_add : MethodName × ByteArray × Nat × Option FieldType := (⟨"KeyedFolds$StoppedKeys", "add", "(J)V"⟩, prog_4_method_3_code, 3, (Option.none : Option FieldType))
abbrev md_L_resume : MethodName × ByteArray × Nat × Option FieldType := (⟨"KeyedFoldsLaw", "resume", "(LKeyedFolds;J)I"⟩, method_7_code, 4, (Option.some FieldType.int))
abbrev mh_L_resume : List (Nat × Nat × Nat × Nat) := [(0, 5, 8, 15)]
abbrev md_K_resume : MethodName × ByteArray × Nat × Option FieldType := (⟨"KeyedFolds", "resume", "(J)V"⟩, prog_1_method_6_code, 3, (Option.none : Option FieldType))
abbrev md_S_remove : MethodName × ByteArray × Nat × Option FieldType := (⟨"KeyedFolds$StoppedKeys", "remove", "(J)V"⟩, prog_4_method_4_code, 4, (Option.none : Option FieldType))
abbrev md_L_state : MethodName × ByteArray × Nat × Option FieldType := (⟨"KeyedFoldsLaw", "state", "(LKeyedFolds;JI[J)I"⟩, method_8_code, 6, (Option.some FieldType.int))
abbrev mh_L_state : List (Nat × Nat × Nat × Nat) := [(0, 10, 13, 21)]
abbrev md_K_state : MethodName × ByteArray × Nat × Option FieldType := (⟨"KeyedFolds", "state", "(JI)J"⟩, prog_1_method_7_code, 5, (Option.some FieldType.long))
abbrev md_L_key : MethodName × ByteArray × Nat × Option FieldType := (⟨"KeyedFoldsLaw", "key", "(LKeyedFolds;JI[J)I"⟩, method_9_code, 6, (Option.some FieldType.int))
abbrev mh_L_key : List (Nat × Nat × Nat × Nat) := [(0, 11, 14, 13)]
abbrev md_K_key : MethodName × ByteArray × Nat × Option FieldType := (⟨"KeyedFolds", "key", "(JI)I"⟩, prog_1_method_8_code, 5, (Option.some FieldType.int))
abbrev md_L_rowOf : MethodName × ByteArray × Nat × Option FieldType := (⟨"KeyedFoldsLaw", "rowOf", "(LKeyedFolds;JII[J)I"⟩, method_10_code, 7, (Option.some FieldType.int))
abbrev mh_L_rowOf : List (Nat × Nat × Nat × Nat) := [(0, 12, 15, 21)]
abbrev md_K_rowOf : MethodName × ByteArray × Nat × Option FieldType := (⟨"KeyedFolds", "rowOf", "(JII)J"⟩, prog_1_method_9_code, 7, (Option.some FieldType.long))
abbrev md_L_aside : MethodName × ByteArray × Nat × Option FieldType := (⟨"KeyedFoldsLaw", "aside", "(LKeyedFolds;II[J)I"⟩, method_11_code, 5, (Option.some FieldType.int))
abbrev mh_L_aside : List (Nat × Nat × Nat × Nat) := [(0, 9, 12, 21)]
abbrev md_K_aside : MethodName × ByteArray × Nat × Option FieldType := (⟨"KeyedFolds", "aside", "(II)J"⟩, prog_1_method_10_code, 3, (Option.some FieldType.long))
abbrev md_T_keeps : MethodName × ByteArray × Nat × Option FieldType := (⟨"KeyedFolds$Table", "keeps", "(I)Z"⟩, prog_5_method_2_code, 2, (Option.some FieldType.boolean))
abbrev md_T_cell : MethodName × ByteArray × Nat × Option FieldType := (⟨"KeyedFolds$Table", "cell", "(II)J"⟩, prog_5_method_5_code, 3, (Option.some FieldType.long))
abbrev md_L_output : MethodName × ByteArray × Nat × Option FieldType := (⟨"KeyedFoldsLaw", "output", "(LKeyedFolds;II[J)I"⟩, method_12_code, 5, (Option.some FieldType.int))
abbrev mh_L_output : List (Nat × Nat × Nat × Nat) := [(0, 9, 12, 21)]
abbrev md_K_output : MethodName × ByteArray × Nat × Option FieldType := (⟨"KeyedFolds", "output", "(II)J"⟩, prog_1_method_11_code, 3, (Option.some FieldType.long))
abbrev md_L_watermark : MethodName × ByteArray × Nat × Option FieldType := (⟨"KeyedFoldsLaw", "watermark", "(LKeyedFolds;[J)I"⟩, method_13_code, 3, (Option.some FieldType.int))
abbrev mh_L_watermark : List (Nat × Nat × Nat × Nat) := [(0, 7, 10, 15)]
abbrev md_K_watermark : MethodName × ByteArray × Nat × Option FieldType := (⟨"KeyedFolds", "watermark", "()J"⟩, prog_1_method_12_code, 1, (Option.some FieldType.long))
abbrev md_L_told : MethodName × ByteArray × Nat × Option FieldType := (⟨"KeyedFoldsLaw", "told", "(LKeyedFolds;I[J)I"⟩, method_14_code, 4, (Option.some FieldType.int))
abbrev mh_L_told : List (Nat × Nat × Nat × Nat) := [(0, 9, 12, 13)]
abbrev md_K_told : MethodName × ByteArray × Nat × Option FieldType := (⟨"KeyedFolds", "told", "(I)I"⟩, prog_1_method_13_code, 2, (Option.some FieldType.int))
abbrev md_L_folded : MethodName × ByteArray × Nat × Option FieldType := (⟨"KeyedFoldsLaw", "folded", "(LKeyedFolds;J[J)I"⟩, method_15_code, 5, (Option.some FieldType.int))
abbrev mh_L_folded : List (Nat × Nat × Nat × Nat) := [(0, 16, 19, 21)]
abbrev md_K_folded : MethodName × ByteArray × Nat × Option FieldType := (⟨"KeyedFolds", "folded", "(J)Z"⟩, prog_1_method_14_code, 4, (Option.some FieldType.boolean))
abbrev md_R_statesAreThoseFoldedAnew : MethodName × ByteArray × Nat × Option FieldType := (⟨"KeyedFolds$KeyRows", "statesAreThoseFoldedAnew", "()Z"⟩, prog_3_method_7_code, 2, (Option.some FieldType.boolean))
abbrev md_L_joined : MethodName × ByteArray × Nat × Option FieldType := (⟨"KeyedFoldsLaw", "joined", "(LKeyedFolds;I[J)I"⟩, method_16_code, 4, (Option.some FieldType.int))
abbrev mh_L_joined : List (Nat × Nat × Nat × Nat) := [(0, 16, 19, 21)]
abbrev md_K_joined : MethodName × ByteArray × Nat × Option FieldType := (⟨"KeyedFolds", "joined", "(I)Z"⟩, prog_1_method_15_code, 3, (Option.some FieldType.boolean))
abbrev md_R_stateIsThatFoldedBackwards : MethodName × ByteArray × Nat × Option FieldType := (⟨"KeyedFolds$KeyRows", "stateIsThatFoldedBackwards", "(I)Z"⟩, prog_3_method_8_code, 6, (Option.some FieldType.boolean))
abbrev md_M_init : MethodName × ByteArray × Nat × Option FieldType := (⟨"KeyedFoldsModel", "<init>", "(IIII)V"⟩, prog_7_method_1_code, 5, (Option.none : Option FieldType))
abbrev md_M_held : MethodName × ByteArray × Nat × Option FieldType := (⟨"KeyedFoldsModel", "held", "(I)I"⟩, prog_7_method_3_code, 2, (Option.some FieldType.int))
abbrev md_M_thrown : MethodName × ByteArray × Nat × Option FieldType := (⟨"KeyedFoldsModel", "thrown", "()I"⟩, prog_7_method_2_code, 1, (Option.some FieldType.int))
abbrev md_M_fold : MethodName × ByteArray × Nat × Option FieldType := (⟨"KeyedFoldsModel", "fold", "(IJJ)I"⟩, prog_7_method_7_code, 6, (Option.some FieldType.int))
abbrev md_M_failsAt : MethodName × ByteArray × Nat × Option FieldType := (⟨"KeyedFoldsModel", "failsAt", "(IJ)I"⟩, prog_7_method_9_code, 4, (Option.some FieldType.int))
abbrev md_M_isFold : MethodName × ByteArray × Nat × Option FieldType := (⟨"KeyedFoldsModel", "isFold", "(I)Z"⟩, prog_7_method_4_code, 2, (Option.some FieldType.boolean))
abbrev md_M_failsAtIt : MethodName × ByteArray × Nat × Option FieldType := (⟨"KeyedFoldsModel", "failsAtIt", "(IJ)Z"⟩, prog_7_method_8_code, 6, (Option.some FieldType.boolean))
abbrev md_M_rule : MethodName × ByteArray × Nat × Option FieldType := (⟨"KeyedFoldsModel", "rule", "(II)I"⟩, prog_7_method_10_code, 4, (Option.some FieldType.int))
abbrev md_M_row : MethodName × ByteArray × Nat × Option FieldType := (⟨"KeyedFoldsModel", "row", "(JJJ)I"⟩, prog_7_method_18_code, 10, (Option.some FieldType.int))
abbrev md_M_stopOf : MethodName × ByteArray × Nat × Option FieldType := (⟨"KeyedFoldsModel", "stopOf", "(J)I"⟩, prog_7_method_6_code, 4, (Option.some FieldType.int))
abbrev md_M_putAside : MethodName × ByteArray × Nat × Option FieldType := (⟨"KeyedFoldsModel", "putAside", "(JJJI)V"⟩, prog_7_method_15_code, 8, (Option.none : Option FieldType))
abbrev md_M_keyOf : MethodName × ByteArray × Nat × Option FieldType := (⟨"KeyedFoldsModel", "keyOf", "(J)I"⟩, prog_7_method_5_code, 4, (Option.some FieldType.int))
abbrev md_M_isDouble : MethodName × ByteArray × Nat × Option FieldType := (⟨"KeyedFoldsModel", "isDouble", "(IJJ)Z"⟩, prog_7_method_16_code, 10, (Option.some FieldType.boolean))
abbrev md_M_causeOf : MethodName × ByteArray × Nat × Option FieldType := (⟨"KeyedFoldsModel", "causeOf", "(J)I"⟩, prog_7_method_17_code, 4, (Option.some FieldType.int))
abbrev md_M_take : MethodName × ByteArray × Nat × Option FieldType := (⟨"KeyedFoldsModel", "take", "(IJJ)V"⟩, prog_7_method_19_code, 11, (Option.none : Option FieldType))
abbrev md_M_mayBeJoined : MethodName × ByteArray × Nat × Option FieldType := (⟨"KeyedFoldsModel", "mayBeJoined", "(I)Z"⟩, prog_7_method_13_code, 2, (Option.some FieldType.boolean))
abbrev md_M_leave : MethodName × ByteArray × Nat × Option FieldType := (⟨"KeyedFoldsModel", "leave", "(I)V"⟩, prog_7_method_20_code, 4, (Option.none : Option FieldType))
abbrev md_M_mayBeTakenBack : MethodName × ByteArray × Nat × Option FieldType := (⟨"KeyedFoldsModel", "mayBeTakenBack", "(I)Z"⟩, prog_7_method_14_code, 2, (Option.some FieldType.boolean))
abbrev md_M_timers : MethodName × ByteArray × Nat × Option FieldType := (⟨"KeyedFoldsModel", "timers", "()V"⟩, prog_7_method_21_code, 8, (Option.none : Option FieldType))
abbrev md_M_tell : MethodName × ByteArray × Nat × Option FieldType := (⟨"KeyedFoldsModel", "tell", "(IJ)V"⟩, prog_7_method_22_code, 5, (Option.none : Option FieldType))
abbrev md_M_foldOf : MethodName × ByteArray × Nat × Option FieldType := (⟨"KeyedFoldsModel", "foldOf", "(IIJ)J"⟩, prog_7_method_12_code, 9, (Option.some FieldType.long))
abbrev md_M_step : MethodName × ByteArray × Nat × Option FieldType := (⟨"KeyedFoldsModel", "step", "(IJJJZJ)J"⟩, prog_7_method_11_code, 13, (Option.some FieldType.long))
abbrev md_M_resume : MethodName × ByteArray × Nat × Option FieldType := (⟨"KeyedFoldsModel", "resume", "(J)V"⟩, prog_7_method_23_code, 4, (Option.none : Option FieldType))
abbrev md_M_state : MethodName × ByteArray × Nat × Option FieldType := (⟨"KeyedFoldsModel", "state", "(JI)J"⟩, prog_7_method_24_code, 5, (Option.some FieldType.long))
abbrev md_M_key : MethodName × ByteArray × Nat × Option FieldType := (⟨"KeyedFoldsModel", "key", "(JI)I"⟩, prog_7_method_25_code, 5, (Option.some FieldType.int))
abbrev md_M_rowOf : MethodName × ByteArray × Nat × Option FieldType := (⟨"KeyedFoldsModel", "rowOf", "(JII)J"⟩, prog_7_method_26_code, 6, (Option.some FieldType.long))
abbrev md_M_aside : MethodName × ByteArray × Nat × Option FieldType := (⟨"KeyedFoldsModel", "aside", "(II)J"⟩, prog_7_method_27_code, 3, (Option.some FieldType.long))
abbrev md_M_output : MethodName × ByteArray × Nat × Option FieldType := (⟨"KeyedFoldsModel", "output", "(II)J"⟩, prog_7_method_28_code, 3, (Option.some FieldType.long))
abbrev md_M_watermark : MethodName × ByteArray × Nat × Option FieldType := (⟨"KeyedFoldsModel", "watermark", "()J"⟩, prog_7_method_29_code, 1, (Option.some FieldType.long))
abbrev md_M_told : MethodName × ByteArray × Nat × Option FieldType := (⟨"KeyedFoldsModel", "told", "(I)I"⟩, prog_7_method_30_code, 2, (Option.some FieldType.int))
abbrev md_M_folded : MethodName × ByteArray × Nat × Option FieldType := (⟨"KeyedFoldsModel", "folded", "(J)Z"⟩, prog_7_method_31_code, 3, (Option.some FieldType.boolean))
abbrev md_M_joined : MethodName × ByteArray × Nat × Option FieldType := (⟨"KeyedFoldsModel", "joined", "(I)Z"⟩, prog_7_method_32_code, 7, (Option.some FieldType.boolean))
abbrev md_L_law : MethodName × ByteArray × Nat × Option FieldType := (⟨"KeyedFoldsLaw", "law", "([I)Z"⟩, code, 8, some .boolean)
end
section
theorem d_A_init_0 : decode md_A_init.2.1 0 = .ok (.aload_n 0, 1) := by decide +kernel
theorem d_A_init_1 : decode md_A_init.2.1 1 = .ok (.invokespecial 1, 3) := by decide +kernel
theorem d_A_init_4 : decode md_A_init.2.1 4 = .ok (.aload_n 0, 1) := by decide +kernel
theorem d_A_init_5 : decode md_A_init.2.1 5 = .ok (.getstatic 39, 3) := by decide +kernel
theorem d_A_init_8 : decode md_A_init.2.1 8 = .ok (.putfield 9, 3) := by decide +kernel
theorem d_A_init_11 : decode md_A_init.2.1 11 = .ok (.return_, 1) := by decide +kernel
theorem d_AL_init_0 : decode md_AL_init.2.1 0 = .ok (.aload_n 0, 1) := by decide +kernel
theorem d_AL_init_1 : decode md_AL_init.2.1 1 = .ok (.invokespecial 1, 3) := by decide +kernel
theorem d_AL_init_4 : decode md_AL_init.2.1 4 = .ok (.aload_n 0, 1) := by decide +kernel
theorem d_AL_init_5 : decode md_AL_init.2.1 5 = .ok (.iconst 0, 1) := by decide +kernel
theorem d_AL_init_6 : decode md_AL_init.2.1 6 = .ok (.putfield 7, 3) := by decide +kernel
theorem d_AL_init_9 : decode md_AL_init.2.1 9 = .ok (.return_, 1) := by decide +kernel
theorem d_AC_init_0 : decode md_AC_init.2.1 0 = .ok (.aload_n 0, 1) := by decide +kernel
theorem d_AC_init_1 : decode md_AC_init.2.1 1 = .ok (.invokespecial 1, 3) := by decide +kernel
theorem d_AC_init_4 : decode md_AC_init.2.1 4 = .ok (.return_, 1) := by decide +kernel
theorem d_MA_min_0 : decode md_MA_min.2.1 0 = .ok (.iload_n 0, 1) := by decide +kernel
theorem d_MA_min_1 : decode md_MA_min.2.1 1 = .ok (.iload_n 1, 1) := by decide +kernel
theorem d_MA_min_2 : decode md_MA_min.2.1 2 = .ok (.if_icmp .gt 7, 3) := by decide +kernel
theorem d_MA_min_5 : decode md_MA_min.2.1 5 = .ok (.iload_n 0, 1) := by decide +kernel
theorem d_MA_min_6 : decode md_MA_min.2.1 6 = .ok (.goto 4, 3) := by decide +kernel
theorem d_MA_min_9 : decode md_MA_min.2.1 9 = .ok (.iload_n 1, 1) := by decide +kernel
theorem d_MA_min_10 : decode md_MA_min.2.1 10 = .ok (.ireturn, 1) := by decide +kernel
theorem d_MA_max_0 : decode md_MA_max.2.1 0 = .ok (.iload_n 0, 1) := by decide +kernel
theorem d_MA_max_1 : decode md_MA_max.2.1 1 = .ok (.iload_n 1, 1) := by decide +kernel
theorem d_MA_max_2 : decode md_MA_max.2.1 2 = .ok (.if_icmp .lt 7, 3) := by decide +kernel
theorem d_MA_max_5 : decode md_MA_max.2.1 5 = .ok (.iload_n 0, 1) := by decide +kernel
theorem d_MA_max_6 : decode md_MA_max.2.1 6 = .ok (.goto 4, 3) := by decide +kernel
theorem d_MA_max_9 : decode md_MA_max.2.1 9 = .ok (.iload_n 1, 1) := by decide +kernel
theorem d_MA_max_10 : decode md_MA_max.2.1 10 = .ok (.ireturn, 1) := by decide +kernel
theorem d_A_size_0 : decode md_A_size.2.1 0 = .ok (.aload_n 0, 1) := by decide +kernel
theorem d_A_size_1 : decode md_A_size.2.1 1 = .ok (.getfield 48, 3) := by decide +kernel
theorem d_A_size_4 : decode md_A_size.2.1 4 = .ok (.ireturn, 1) := by decide +kernel
theorem d_A_add_0 : decode md_A_add.2.1 0 = .ok (.aload_n 0, 1) := by decide +kernel
theorem d_A_add_1 : decode md_A_add.2.1 1 = .ok (.dup, 1) := by decide +kernel
theorem d_A_add_2 : decode md_A_add.2.1 2 = .ok (.getfield 63, 3) := by decide +kernel
theorem d_A_add_5 : decode md_A_add.2.1 5 = .ok (.iconst 1, 1) := by decide +kernel
theorem d_A_add_6 : decode md_A_add.2.1 6 = .ok (.iadd, 1) := by decide +kernel
theorem d_A_add_7 : decode md_A_add.2.1 7 = .ok (.putfield 63, 3) := by decide +kernel
theorem d_A_add_10 : decode md_A_add.2.1 10 = .ok (.aload_n 0, 1) := by decide +kernel
theorem d_A_add_11 : decode md_A_add.2.1 11 = .ok (.aload_n 1, 1) := by decide +kernel
theorem d_A_add_12 : decode md_A_add.2.1 12 = .ok (.aload_n 0, 1) := by decide +kernel
theorem d_A_add_13 : decode md_A_add.2.1 13 = .ok (.getfield 9, 3) := by decide +kernel
theorem d_A_add_16 : decode md_A_add.2.1 16 = .ok (.aload_n 0, 1) := by decide +kernel
theorem d_A_add_17 : decode md_A_add.2.1 17 = .ok (.getfield 48, 3) := by decide +kernel
theorem d_A_add_20 : decode md_A_add.2.1 20 = .ok (.invokevirtual 131, 3) := by decide +kernel
theorem d_A_add_23 : decode md_A_add.2.1 23 = .ok (.iconst 1, 1) := by decide +kernel
theorem d_A_add_24 : decode md_A_add.2.1 24 = .ok (.ireturn, 1) := by decide +kernel
theorem d_A_add2_0 : decode md_A_add2.2.1 0 = .ok (.iload_n 3, 1) := by decide +kernel
theorem d_A_add2_1 : decode md_A_add2.2.1 1 = .ok (.aload_n 2, 1) := by decide +kernel
theorem d_A_add2_2 : decode md_A_add2.2.1 2 = .ok (.arraylength, 1) := by decide +kernel
theorem d_A_add2_3 : decode md_A_add2.2.1 3 = .ok (.if_icmp .ne 8, 3) := by decide +kernel
theorem d_A_add2_6 : decode md_A_add2.2.1 6 = .ok (.aload_n 0, 1) := by decide +kernel
theorem d_A_add2_7 : decode md_A_add2.2.1 7 = .ok (.invokevirtual 129, 3) := by decide +kernel
theorem d_A_add2_10 : decode md_A_add2.2.1 10 = .ok (.astore_n 2, 1) := by decide +kernel
theorem d_A_add2_11 : decode md_A_add2.2.1 11 = .ok (.aload_n 2, 1) := by decide +kernel
theorem d_A_add2_12 : decode md_A_add2.2.1 12 = .ok (.iload_n 3, 1) := by decide +kernel
theorem d_A_add2_13 : decode md_A_add2.2.1 13 = .ok (.aload_n 1, 1) := by decide +kernel
theorem d_A_add2_14 : decode md_A_add2.2.1 14 = .ok (.aastore, 1) := by decide +kernel
theorem d_A_add2_15 : decode md_A_add2.2.1 15 = .ok (.aload_n 0, 1) := by decide +kernel
theorem d_A_add2_16 : decode md_A_add2.2.1 16 = .ok (.iload_n 3, 1) := by decide +kernel
theorem d_A_add2_17 : decode md_A_add2.2.1 17 = .ok (.iconst 1, 1) := by decide +kernel
theorem d_A_add2_18 : decode md_A_add2.2.1 18 = .ok (.iadd, 1) := by decide +kernel
theorem d_A_add2_19 : decode md_A_add2.2.1 19 = .ok (.putfield 48, 3) := by decide +kernel
theorem d_A_add2_22 : decode md_A_add2.2.1 22 = .ok (.return_, 1) := by decide +kernel
theorem d_A_grow_0 : decode md_A_grow.2.1 0 = .ok (.aload_n 0, 1) := by decide +kernel
theorem d_A_grow_1 : decode md_A_grow.2.1 1 = .ok (.aload_n 0, 1) := by decide +kernel
theorem d_A_grow_2 : decode md_A_grow.2.1 2 = .ok (.getfield 48, 3) := by decide +kernel
theorem d_A_grow_5 : decode md_A_grow.2.1 5 = .ok (.iconst 1, 1) := by decide +kernel
theorem d_A_grow_6 : decode md_A_grow.2.1 6 = .ok (.iadd, 1) := by decide +kernel
theorem d_A_grow_7 : decode md_A_grow.2.1 7 = .ok (.invokevirtual 69, 3) := by decide +kernel
theorem d_A_grow_10 : decode md_A_grow.2.1 10 = .ok (.areturn, 1) := by decide +kernel
theorem d_A_grow2_0 : decode md_A_grow2.2.1 0 = .ok (.aload_n 0, 1) := by decide +kernel
theorem d_A_grow2_1 : decode md_A_grow2.2.1 1 = .ok (.getfield 9, 3) := by decide +kernel
theorem d_A_grow2_4 : decode md_A_grow2.2.1 4 = .ok (.arraylength, 1) := by decide +kernel
theorem d_A_grow2_5 : decode md_A_grow2.2.1 5 = .ok (.istore_n 2, 1) := by decide +kernel
theorem d_A_grow2_6 : decode md_A_grow2.2.1 6 = .ok (.iload_n 2, 1) := by decide +kernel
theorem d_A_grow2_7 : decode md_A_grow2.2.1 7 = .ok (.ifCond .gt 13, 3) := by decide +kernel
theorem d_A_grow2_10 : decode md_A_grow2.2.1 10 = .ok (.aload_n 0, 1) := by decide +kernel
theorem d_A_grow2_11 : decode md_A_grow2.2.1 11 = .ok (.getfield 9, 3) := by decide +kernel
theorem d_A_grow2_14 : decode md_A_grow2.2.1 14 = .ok (.getstatic 39, 3) := by decide +kernel
theorem d_A_grow2_17 : decode md_A_grow2.2.1 17 = .ok (.if_acmp .eq 28, 3) := by decide +kernel
theorem d_A_grow2_20 : decode md_A_grow2.2.1 20 = .ok (.iload_n 2, 1) := by decide +kernel
theorem d_A_grow2_21 : decode md_A_grow2.2.1 21 = .ok (.iload_n 1, 1) := by decide +kernel
theorem d_A_grow2_22 : decode md_A_grow2.2.1 22 = .ok (.iload_n 2, 1) := by decide +kernel
theorem d_A_grow2_23 : decode md_A_grow2.2.1 23 = .ok (.isub, 1) := by decide +kernel
theorem d_A_grow2_24 : decode md_A_grow2.2.1 24 = .ok (.iload_n 2, 1) := by decide +kernel
theorem d_A_grow2_25 : decode md_A_grow2.2.1 25 = .ok (.iconst 1, 1) := by decide +kernel
theorem d_A_grow2_26 : decode md_A_grow2.2.1 26 = .ok (.ishr, 1) := by decide +kernel
theorem d_A_grow2_27 : decode md_A_grow2.2.1 27 = .ok (.invokestatic 73, 3) := by decide +kernel
theorem d_A_grow2_30 : decode md_A_grow2.2.1 30 = .ok (.istore_n 3, 1) := by decide +kernel
theorem d_A_grow2_31 : decode md_A_grow2.2.1 31 = .ok (.aload_n 0, 1) := by decide +kernel
theorem d_A_grow2_32 : decode md_A_grow2.2.1 32 = .ok (.aload_n 0, 1) := by decide +kernel
theorem d_A_grow2_33 : decode md_A_grow2.2.1 33 = .ok (.getfield 9, 3) := by decide +kernel
theorem d_A_grow2_36 : decode md_A_grow2.2.1 36 = .ok (.iload_n 3, 1) := by decide +kernel
theorem d_A_grow2_37 : decode md_A_grow2.2.1 37 = .ok (.invokestatic 66, 3) := by decide +kernel
theorem d_A_grow2_40 : decode md_A_grow2.2.1 40 = .ok (.dup_x1, 1) := by decide +kernel
theorem d_A_grow2_41 : decode md_A_grow2.2.1 41 = .ok (.putfield 9, 3) := by decide +kernel
theorem d_A_grow2_44 : decode md_A_grow2.2.1 44 = .ok (.areturn, 1) := by decide +kernel
theorem d_A_grow2_45 : decode md_A_grow2.2.1 45 = .ok (.aload_n 0, 1) := by decide +kernel
theorem d_A_grow2_46 : decode md_A_grow2.2.1 46 = .ok (.bipush 10, 2) := by decide +kernel
theorem d_A_grow2_48 : decode md_A_grow2.2.1 48 = .ok (.iload_n 1, 1) := by decide +kernel
theorem d_A_grow2_49 : decode md_A_grow2.2.1 49 = .ok (.invokestatic 79, 3) := by decide +kernel
theorem d_A_grow2_52 : decode md_A_grow2.2.1 52 = .ok (.anewarray 7, 3) := by decide +kernel
theorem d_A_grow2_55 : decode md_A_grow2.2.1 55 = .ok (.dup_x1, 1) := by decide +kernel
theorem d_A_grow2_56 : decode md_A_grow2.2.1 56 = .ok (.putfield 9, 3) := by decide +kernel
theorem d_A_grow2_59 : decode md_A_grow2.2.1 59 = .ok (.areturn, 1) := by decide +kernel
theorem d_AS_newLength_0 : decode md_AS_newLength.2.1 0 = .ok (.iload_n 0, 1) := by decide +kernel
theorem d_AS_newLength_1 : decode md_AS_newLength.2.1 1 = .ok (.iload_n 1, 1) := by decide +kernel
theorem d_AS_newLength_2 : decode md_AS_newLength.2.1 2 = .ok (.iload_n 2, 1) := by decide +kernel
theorem d_AS_newLength_3 : decode md_AS_newLength.2.1 3 = .ok (.invokestatic 194, 3) := by decide +kernel
theorem d_AS_newLength_6 : decode md_AS_newLength.2.1 6 = .ok (.iadd, 1) := by decide +kernel
theorem d_AS_newLength_7 : decode md_AS_newLength.2.1 7 = .ok (.istore_n 3, 1) := by decide +kernel
theorem d_AS_newLength_8 : decode md_AS_newLength.2.1 8 = .ok (.iconst 0, 1) := by decide +kernel
theorem d_AS_newLength_9 : decode md_AS_newLength.2.1 9 = .ok (.iload_n 3, 1) := by decide +kernel
theorem d_AS_newLength_10 : decode md_AS_newLength.2.1 10 = .ok (.if_icmp .ge 11, 3) := by decide +kernel
theorem d_AS_newLength_13 : decode md_AS_newLength.2.1 13 = .ok (.iload_n 3, 1) := by decide +kernel
theorem d_AS_newLength_14 : decode md_AS_newLength.2.1 14 = .ok (.ldc 200, 2) := by decide +kernel
theorem d_AS_newLength_16 : decode md_AS_newLength.2.1 16 = .ok (.if_icmp .gt 5, 3) := by decide +kernel
theorem d_AS_newLength_19 : decode md_AS_newLength.2.1 19 = .ok (.iload_n 3, 1) := by decide +kernel
theorem d_AS_newLength_20 : decode md_AS_newLength.2.1 20 = .ok (.ireturn, 1) := by decide +kernel
theorem d_AS_newLength_21 : decode md_AS_newLength.2.1 21 = .ok (.iload_n 0, 1) := by decide +kernel
theorem d_AS_newLength_22 : decode md_AS_newLength.2.1 22 = .ok (.iload_n 1, 1) := by decide +kernel
theorem d_AS_newLength_23 : decode md_AS_newLength.2.1 23 = .ok (.invokestatic 201, 3) := by decide +kernel
theorem d_AS_newLength_26 : decode md_AS_newLength.2.1 26 = .ok (.ireturn, 1) := by decide +kernel
theorem d_AR_copyOf_0 : decode md_AR_copyOf.2.1 0 = .ok (.aload_n 0, 1) := by decide +kernel
theorem d_AR_copyOf_1 : decode md_AR_copyOf.2.1 1 = .ok (.iload_n 1, 1) := by decide +kernel
theorem d_AR_copyOf_2 : decode md_AR_copyOf.2.1 2 = .ok (.aload_n 0, 1) := by decide +kernel
theorem d_AR_copyOf_3 : decode md_AR_copyOf.2.1 3 = .ok (.invokevirtual 86, 3) := by decide +kernel
theorem d_AR_copyOf_6 : decode md_AR_copyOf.2.1 6 = .ok (.invokestatic 300, 3) := by decide +kernel
theorem d_AR_copyOf_9 : decode md_AR_copyOf.2.1 9 = .ok (.areturn, 1) := by decide +kernel
theorem d_AR_copyOf2_0 : decode md_AR_copyOf2.2.1 0 = .ok (.aload_n 2, 1) := by decide +kernel
theorem d_AR_copyOf2_1 : decode md_AR_copyOf2.2.1 1 = .ok (.ldc 110, 2) := by decide +kernel
theorem d_AR_copyOf2_3 : decode md_AR_copyOf2.2.1 3 = .ok (.if_acmp .ne 10, 3) := by decide +kernel
theorem d_AR_copyOf2_6 : decode md_AR_copyOf2.2.1 6 = .ok (.iload_n 1, 1) := by decide +kernel
theorem d_AR_copyOf2_7 : decode md_AR_copyOf2.2.1 7 = .ok (.anewarray 2, 3) := by decide +kernel
theorem d_AR_copyOf2_10 : decode md_AR_copyOf2.2.1 10 = .ok (.goto 14, 3) := by decide +kernel
theorem d_AR_copyOf2_13 : decode md_AR_copyOf2.2.1 13 = .ok (.aload_n 2, 1) := by decide +kernel
theorem d_AR_copyOf2_14 : decode md_AR_copyOf2.2.1 14 = .ok (.invokevirtual 90, 3) := by decide +kernel
theorem d_AR_copyOf2_17 : decode md_AR_copyOf2.2.1 17 = .ok (.iload_n 1, 1) := by decide +kernel
theorem d_AR_copyOf2_18 : decode md_AR_copyOf2.2.1 18 = .ok (.invokestatic 95, 3) := by decide +kernel
theorem d_AR_copyOf2_21 : decode md_AR_copyOf2.2.1 21 = .ok (.checkcast 110, 3) := by decide +kernel
theorem d_AR_copyOf2_24 : decode md_AR_copyOf2.2.1 24 = .ok (.astore_n 3, 1) := by decide +kernel
theorem d_AR_copyOf2_25 : decode md_AR_copyOf2.2.1 25 = .ok (.aload_n 0, 1) := by decide +kernel
theorem d_AR_copyOf2_26 : decode md_AR_copyOf2.2.1 26 = .ok (.iconst 0, 1) := by decide +kernel
theorem d_AR_copyOf2_27 : decode md_AR_copyOf2.2.1 27 = .ok (.aload_n 3, 1) := by decide +kernel
theorem d_AR_copyOf2_28 : decode md_AR_copyOf2.2.1 28 = .ok (.iconst 0, 1) := by decide +kernel
theorem d_AR_copyOf2_29 : decode md_AR_copyOf2.2.1 29 = .ok (.aload_n 0, 1) := by decide +kernel
theorem d_AR_copyOf2_30 : decode md_AR_copyOf2.2.1 30 = .ok (.arraylength, 1) := by decide +kernel
theorem d_AR_copyOf2_31 : decode md_AR_copyOf2.2.1 31 = .ok (.iload_n 1, 1) := by decide +kernel
theorem d_AR_copyOf2_32 : decode md_AR_copyOf2.2.1 32 = .ok (.invokestatic 304, 3) := by decide +kernel
theorem d_AR_copyOf2_35 : decode md_AR_copyOf2.2.1 35 = .ok (.invokestatic 150, 3) := by decide +kernel
theorem d_AR_copyOf2_38 : decode md_AR_copyOf2.2.1 38 = .ok (.aload_n 3, 1) := by decide +kernel
theorem d_AR_copyOf2_39 : decode md_AR_copyOf2.2.1 39 = .ok (.areturn, 1) := by decide +kernel
theorem d_A_get_0 : decode md_A_get.2.1 0 = .ok (.iload_n 1, 1) := by decide +kernel
theorem d_A_get_1 : decode md_A_get.2.1 1 = .ok (.aload_n 0, 1) := by decide +kernel
theorem d_A_get_2 : decode md_A_get.2.1 2 = .ok (.getfield 48, 3) := by decide +kernel
theorem d_A_get_5 : decode md_A_get.2.1 5 = .ok (.invokestatic 118, 3) := by decide +kernel
theorem d_A_get_8 : decode md_A_get.2.1 8 = .ok (.pop, 1) := by decide +kernel
theorem d_A_get_9 : decode md_A_get.2.1 9 = .ok (.aload_n 0, 1) := by decide +kernel
theorem d_A_get_10 : decode md_A_get.2.1 10 = .ok (.iload_n 1, 1) := by decide +kernel
theorem d_A_get_11 : decode md_A_get.2.1 11 = .ok (.invokevirtual 123, 3) := by decide +kernel
theorem d_A_get_14 : decode md_A_get.2.1 14 = .ok (.areturn, 1) := by decide +kernel
theorem d_OB_checkIndex_0 : decode md_OB_checkIndex.2.1 0 = .ok (.iload_n 0, 1) := by decide +kernel
theorem d_OB_checkIndex_1 : decode md_OB_checkIndex.2.1 1 = .ok (.iload_n 1, 1) := by decide +kernel
theorem d_OB_checkIndex_2 : decode md_OB_checkIndex.2.1 2 = .ok (.aconst_null, 1) := by decide +kernel
theorem d_OB_checkIndex_3 : decode md_OB_checkIndex.2.1 3 = .ok (.invokestatic 105, 3) := by decide +kernel
theorem d_OB_checkIndex_6 : decode md_OB_checkIndex.2.1 6 = .ok (.ireturn, 1) := by decide +kernel
theorem d_PC_checkIndex_0 : decode md_PC_checkIndex.2.1 0 = .ok (.iload_n 0, 1) := by decide +kernel
theorem d_PC_checkIndex_1 : decode md_PC_checkIndex.2.1 1 = .ok (.ifCond .lt 8, 3) := by decide +kernel
theorem d_PC_checkIndex_4 : decode md_PC_checkIndex.2.1 4 = .ok (.iload_n 0, 1) := by decide +kernel
theorem d_PC_checkIndex_5 : decode md_PC_checkIndex.2.1 5 = .ok (.iload_n 1, 1) := by decide +kernel
theorem d_PC_checkIndex_6 : decode md_PC_checkIndex.2.1 6 = .ok (.if_icmp .lt 10, 3) := by decide +kernel
theorem d_PC_checkIndex_9 : decode md_PC_checkIndex.2.1 9 = .ok (.aload_n 2, 1) := by decide +kernel
theorem d_PC_checkIndex_10 : decode md_PC_checkIndex.2.1 10 = .ok (.iload_n 0, 1) := by decide +kernel
theorem d_PC_checkIndex_11 : decode md_PC_checkIndex.2.1 11 = .ok (.iload_n 1, 1) := by decide +kernel
theorem d_PC_checkIndex_12 : decode md_PC_checkIndex.2.1 12 = .ok (.invokestatic 95, 3) := by decide +kernel
theorem d_PC_checkIndex_15 : decode md_PC_checkIndex.2.1 15 = .ok (.athrow, 1) := by decide +kernel
theorem d_PC_checkIndex_16 : decode md_PC_checkIndex.2.1 16 = .ok (.iload_n 0, 1) := by decide +kernel
theorem d_PC_checkIndex_17 : decode md_PC_checkIndex.2.1 17 = .ok (.ireturn, 1) := by decide +kernel
theorem d_A_elementData_0 : decode md_A_elementData.2.1 0 = .ok (.aload_n 0, 1) := by decide +kernel
theorem d_A_elementData_1 : decode md_A_elementData.2.1 1 = .ok (.getfield 9, 3) := by decide +kernel
theorem d_A_elementData_4 : decode md_A_elementData.2.1 4 = .ok (.iload_n 1, 1) := by decide +kernel
theorem d_A_elementData_5 : decode md_A_elementData.2.1 5 = .ok (.aaload, 1) := by decide +kernel
theorem d_A_elementData_6 : decode md_A_elementData.2.1 6 = .ok (.areturn, 1) := by decide +kernel
theorem d_A_isEmpty_0 : decode md_A_isEmpty.2.1 0 = .ok (.aload_n 0, 1) := by decide +kernel
theorem d_A_isEmpty_1 : decode md_A_isEmpty.2.1 1 = .ok (.getfield 48, 3) := by decide +kernel
theorem d_A_isEmpty_4 : decode md_A_isEmpty.2.1 4 = .ok (.ifCond .ne 7, 3) := by decide +kernel
theorem d_A_isEmpty_7 : decode md_A_isEmpty.2.1 7 = .ok (.iconst 1, 1) := by decide +kernel
theorem d_A_isEmpty_8 : decode md_A_isEmpty.2.1 8 = .ok (.goto 4, 3) := by decide +kernel
theorem d_A_isEmpty_11 : decode md_A_isEmpty.2.1 11 = .ok (.iconst 0, 1) := by decide +kernel
theorem d_A_isEmpty_12 : decode md_A_isEmpty.2.1 12 = .ok (.ireturn, 1) := by decide +kernel
theorem d_MA_abs_0 : decode md_MA_abs.2.1 0 = .ok (.lload_n 0, 1) := by decide +kernel
theorem d_MA_abs_1 : decode md_MA_abs.2.1 1 = .ok (.lconst 0, 1) := by decide +kernel
theorem d_MA_abs_2 : decode md_MA_abs.2.1 2 = .ok (.lcmp, 1) := by decide +kernel
theorem d_MA_abs_3 : decode md_MA_abs.2.1 3 = .ok (.ifCond .ge 8, 3) := by decide +kernel
theorem d_MA_abs_6 : decode md_MA_abs.2.1 6 = .ok (.lload_n 0, 1) := by decide +kernel
theorem d_MA_abs_7 : decode md_MA_abs.2.1 7 = .ok (.lneg, 1) := by decide +kernel
theorem d_MA_abs_8 : decode md_MA_abs.2.1 8 = .ok (.goto 4, 3) := by decide +kernel
theorem d_MA_abs_11 : decode md_MA_abs.2.1 11 = .ok (.lload_n 0, 1) := by decide +kernel
theorem d_MA_abs_12 : decode md_MA_abs.2.1 12 = .ok (.lreturn, 1) := by decide +kernel
theorem d_MA_max2_0 : decode md_MA_max2.2.1 0 = .ok (.lload_n 0, 1) := by decide +kernel
theorem d_MA_max2_1 : decode md_MA_max2.2.1 1 = .ok (.lload_n 2, 1) := by decide +kernel
theorem d_MA_max2_2 : decode md_MA_max2.2.1 2 = .ok (.lcmp, 1) := by decide +kernel
theorem d_MA_max2_3 : decode md_MA_max2.2.1 3 = .ok (.ifCond .lt 7, 3) := by decide +kernel
theorem d_MA_max2_6 : decode md_MA_max2.2.1 6 = .ok (.lload_n 0, 1) := by decide +kernel
theorem d_MA_max2_7 : decode md_MA_max2.2.1 7 = .ok (.goto 4, 3) := by decide +kernel
theorem d_MA_max2_10 : decode md_MA_max2.2.1 10 = .ok (.lload_n 2, 1) := by decide +kernel
theorem d_MA_max2_11 : decode md_MA_max2.2.1 11 = .ok (.lreturn, 1) := by decide +kernel
theorem d_MA_min2_0 : decode md_MA_min2.2.1 0 = .ok (.lload_n 0, 1) := by decide +kernel
theorem d_MA_min2_1 : decode md_MA_min2.2.1 1 = .ok (.lload_n 2, 1) := by decide +kernel
theorem d_MA_min2_2 : decode md_MA_min2.2.1 2 = .ok (.lcmp, 1) := by decide +kernel
theorem d_MA_min2_3 : decode md_MA_min2.2.1 3 = .ok (.ifCond .gt 7, 3) := by decide +kernel
theorem d_MA_min2_6 : decode md_MA_min2.2.1 6 = .ok (.lload_n 0, 1) := by decide +kernel
theorem d_MA_min2_7 : decode md_MA_min2.2.1 7 = .ok (.goto 4, 3) := by decide +kernel
theorem d_MA_min2_10 : decode md_MA_min2.2.1 10 = .ok (.lload_n 2, 1) := by decide +kernel
theorem d_MA_min2_11 : decode md_MA_min2.2.1 11 = .ok (.lreturn, 1) := by decide +kernel
end
section
theorem d_K_init_0 : decode md_K_init.2.1 0 = .ok (.aload_n 0, 1) := by decide +kernel
theorem d_K_init_1 : decode md_K_init.2.1 1 = .ok (.invokespecial 1, 3) := by decide +kernel
theorem d_K_init_4 : decode md_K_init.2.1 4 = .ok (.aload_n 0, 1) := by decide +kernel
theorem d_K_init_5 : decode md_K_init.2.1 5 = .ok (.new 7, 3) := by decide +kernel
theorem d_K_init_8 : decode md_K_init.2.1 8 = .ok (.dup, 1) := by decide +kernel
theorem d_K_init_9 : decode md_K_init.2.1 9 = .ok (.invokespecial 9, 3) := by decide +kernel
theorem d_K_init_12 : decode md_K_init.2.1 12 = .ok (.putfield 10, 3) := by decide +kernel
theorem d_K_init_15 : decode md_K_init.2.1 15 = .ok (.aload_n 0, 1) := by decide +kernel
theorem d_K_init_16 : decode md_K_init.2.1 16 = .ok (.new 7, 3) := by decide +kernel
theorem d_K_init_19 : decode md_K_init.2.1 19 = .ok (.dup, 1) := by decide +kernel
theorem d_K_init_20 : decode md_K_init.2.1 20 = .ok (.invokespecial 9, 3) := by decide +kernel
theorem d_K_init_23 : decode md_K_init.2.1 23 = .ok (.putfield 16, 3) := by decide +kernel
theorem d_K_init_26 : decode md_K_init.2.1 26 = .ok (.aload_n 0, 1) := by decide +kernel
theorem d_K_init_27 : decode md_K_init.2.1 27 = .ok (.new 19, 3) := by decide +kernel
theorem d_K_init_30 : decode md_K_init.2.1 30 = .ok (.dup, 1) := by decide +kernel
theorem d_K_init_31 : decode md_K_init.2.1 31 = .ok (.invokespecial 21, 3) := by decide +kernel
theorem d_K_init_34 : decode md_K_init.2.1 34 = .ok (.putfield 22, 3) := by decide +kernel
theorem d_K_init_37 : decode md_K_init.2.1 37 = .ok (.aload_n 0, 1) := by decide +kernel
theorem d_K_init_38 : decode md_K_init.2.1 38 = .ok (.new 26, 3) := by decide +kernel
theorem d_K_init_41 : decode md_K_init.2.1 41 = .ok (.dup, 1) := by decide +kernel
theorem d_K_init_42 : decode md_K_init.2.1 42 = .ok (.bipush 100, 2) := by decide +kernel
theorem d_K_init_44 : decode md_K_init.2.1 44 = .ok (.iconst 4, 1) := by decide +kernel
theorem d_K_init_45 : decode md_K_init.2.1 45 = .ok (.invokespecial 28, 3) := by decide +kernel
theorem d_K_init_48 : decode md_K_init.2.1 48 = .ok (.putfield 31, 3) := by decide +kernel
theorem d_K_init_51 : decode md_K_init.2.1 51 = .ok (.aload_n 0, 1) := by decide +kernel
theorem d_K_init_52 : decode md_K_init.2.1 52 = .ok (.new 26, 3) := by decide +kernel
theorem d_K_init_55 : decode md_K_init.2.1 55 = .ok (.dup, 1) := by decide +kernel
theorem d_K_init_56 : decode md_K_init.2.1 56 = .ok (.sipush 300, 3) := by decide +kernel
theorem d_K_init_59 : decode md_K_init.2.1 59 = .ok (.bipush 8, 2) := by decide +kernel
theorem d_K_init_61 : decode md_K_init.2.1 61 = .ok (.invokespecial 28, 3) := by decide +kernel
theorem d_K_init_64 : decode md_K_init.2.1 64 = .ok (.putfield 35, 3) := by decide +kernel
theorem d_K_init_67 : decode md_K_init.2.1 67 = .ok (.aload_n 0, 1) := by decide +kernel
theorem d_K_init_68 : decode md_K_init.2.1 68 = .ok (.iconst 0, 1) := by decide +kernel
theorem d_K_init_69 : decode md_K_init.2.1 69 = .ok (.putfield 38, 3) := by decide +kernel
theorem d_K_init_72 : decode md_K_init.2.1 72 = .ok (.aload_n 0, 1) := by decide +kernel
theorem d_K_init_73 : decode md_K_init.2.1 73 = .ok (.iconst 0, 1) := by decide +kernel
theorem d_K_init_74 : decode md_K_init.2.1 74 = .ok (.putfield 42, 3) := by decide +kernel
theorem d_K_init_77 : decode md_K_init.2.1 77 = .ok (.aload_n 0, 1) := by decide +kernel
theorem d_K_init_78 : decode md_K_init.2.1 78 = .ok (.ldc2_w 45, 3) := by decide +kernel
theorem d_K_init_81 : decode md_K_init.2.1 81 = .ok (.putfield 47, 3) := by decide +kernel
theorem d_K_init_84 : decode md_K_init.2.1 84 = .ok (.aload_n 0, 1) := by decide +kernel
theorem d_K_init_85 : decode md_K_init.2.1 85 = .ok (.lconst 0, 1) := by decide +kernel
theorem d_K_init_86 : decode md_K_init.2.1 86 = .ok (.putfield 51, 3) := by decide +kernel
theorem d_K_init_89 : decode md_K_init.2.1 89 = .ok (.aload_n 0, 1) := by decide +kernel
theorem d_K_init_90 : decode md_K_init.2.1 90 = .ok (.iconst 0, 1) := by decide +kernel
theorem d_K_init_91 : decode md_K_init.2.1 91 = .ok (.putfield 54, 3) := by decide +kernel
theorem d_K_init_94 : decode md_K_init.2.1 94 = .ok (.aload_n 0, 1) := by decide +kernel
theorem d_K_init_95 : decode md_K_init.2.1 95 = .ok (.iconst 0, 1) := by decide +kernel
theorem d_K_init_96 : decode md_K_init.2.1 96 = .ok (.putfield 57, 3) := by decide +kernel
theorem d_K_init_99 : decode md_K_init.2.1 99 = .ok (.aload_n 0, 1) := by decide +kernel
theorem d_K_init_100 : decode md_K_init.2.1 100 = .ok (.iconst 0, 1) := by decide +kernel
theorem d_K_init_101 : decode md_K_init.2.1 101 = .ok (.putfield 60, 3) := by decide +kernel
theorem d_K_init_104 : decode md_K_init.2.1 104 = .ok (.aload_n 0, 1) := by decide +kernel
theorem d_K_init_105 : decode md_K_init.2.1 105 = .ok (.iconst 0, 1) := by decide +kernel
theorem d_K_init_106 : decode md_K_init.2.1 106 = .ok (.putfield 63, 3) := by decide +kernel
theorem d_K_init_109 : decode md_K_init.2.1 109 = .ok (.aload_n 0, 1) := by decide +kernel
theorem d_K_init_110 : decode md_K_init.2.1 110 = .ok (.iconst 0, 1) := by decide +kernel
theorem d_K_init_111 : decode md_K_init.2.1 111 = .ok (.putfield 66, 3) := by decide +kernel
theorem d_K_init_114 : decode md_K_init.2.1 114 = .ok (.aload_n 0, 1) := by decide +kernel
theorem d_K_init_115 : decode md_K_init.2.1 115 = .ok (.iload_n 1, 1) := by decide +kernel
theorem d_K_init_116 : decode md_K_init.2.1 116 = .ok (.invokestatic 69, 3) := by decide +kernel
theorem d_K_init_119 : decode md_K_init.2.1 119 = .ok (.putfield 73, 3) := by decide +kernel
theorem d_K_init_122 : decode md_K_init.2.1 122 = .ok (.aload_n 0, 1) := by decide +kernel
theorem d_K_init_123 : decode md_K_init.2.1 123 = .ok (.iload_n 2, 1) := by decide +kernel
theorem d_K_init_124 : decode md_K_init.2.1 124 = .ok (.invokestatic 69, 3) := by decide +kernel
theorem d_K_init_127 : decode md_K_init.2.1 127 = .ok (.putfield 76, 3) := by decide +kernel
theorem d_K_init_130 : decode md_K_init.2.1 130 = .ok (.aload_n 0, 1) := by decide +kernel
theorem d_K_init_131 : decode md_K_init.2.1 131 = .ok (.iload_n 3, 1) := by decide +kernel
theorem d_K_init_132 : decode md_K_init.2.1 132 = .ok (.invokestatic 69, 3) := by decide +kernel
theorem d_K_init_135 : decode md_K_init.2.1 135 = .ok (.putfield 79, 3) := by decide +kernel
theorem d_K_init_138 : decode md_K_init.2.1 138 = .ok (.aload_n 0, 1) := by decide +kernel
theorem d_K_init_139 : decode md_K_init.2.1 139 = .ok (.iload 4, 2) := by decide +kernel
theorem d_K_init_141 : decode md_K_init.2.1 141 = .ok (.invokestatic 69, 3) := by decide +kernel
theorem d_K_init_144 : decode md_K_init.2.1 144 = .ok (.putfield 82, 3) := by decide +kernel
theorem d_K_init_147 : decode md_K_init.2.1 147 = .ok (.return_, 1) := by decide +kernel
theorem d_S_init_0 : decode md_S_init.2.1 0 = .ok (.aload_n 0, 1) := by decide +kernel
theorem d_S_init_1 : decode md_S_init.2.1 1 = .ok (.invokespecial 3, 3) := by decide +kernel
theorem d_S_init_4 : decode md_S_init.2.1 4 = .ok (.aload_n 0, 1) := by decide +kernel
theorem d_S_init_5 : decode md_S_init.2.1 5 = .ok (.sipush 512, 3) := by decide +kernel
theorem d_S_init_8 : decode md_S_init.2.1 8 = .ok (.newarray .long, 2) := by decide +kernel
theorem d_S_init_10 : decode md_S_init.2.1 10 = .ok (.putfield 9, 3) := by decide +kernel
theorem d_S_init_13 : decode md_S_init.2.1 13 = .ok (.aload_n 0, 1) := by decide +kernel
theorem d_S_init_14 : decode md_S_init.2.1 14 = .ok (.iconst 0, 1) := by decide +kernel
theorem d_S_init_15 : decode md_S_init.2.1 15 = .ok (.putfield 15, 3) := by decide +kernel
theorem d_S_init_18 : decode md_S_init.2.1 18 = .ok (.return_, 1) := by decide +kernel
theorem d_T_init_0 : decode md_T_init.2.1 0 = .ok (.aload_n 0, 1) := by decide +kernel
theorem d_T_init_1 : decode md_T_init.2.1 1 = .ok (.invokespecial 3, 3) := by decide +kernel
theorem d_T_init_4 : decode md_T_init.2.1 4 = .ok (.aload_n 0, 1) := by decide +kernel
theorem d_T_init_5 : decode md_T_init.2.1 5 = .ok (.iconst 0, 1) := by decide +kernel
theorem d_T_init_6 : decode md_T_init.2.1 6 = .ok (.putfield 9, 3) := by decide +kernel
theorem d_T_init_9 : decode md_T_init.2.1 9 = .ok (.aload_n 0, 1) := by decide +kernel
theorem d_T_init_10 : decode md_T_init.2.1 10 = .ok (.iload_n 1, 1) := by decide +kernel
theorem d_T_init_11 : decode md_T_init.2.1 11 = .ok (.putfield 15, 3) := by decide +kernel
theorem d_T_init_14 : decode md_T_init.2.1 14 = .ok (.aload_n 0, 1) := by decide +kernel
theorem d_T_init_15 : decode md_T_init.2.1 15 = .ok (.iload_n 2, 1) := by decide +kernel
theorem d_T_init_16 : decode md_T_init.2.1 16 = .ok (.putfield 18, 3) := by decide +kernel
theorem d_T_init_19 : decode md_T_init.2.1 19 = .ok (.aload_n 0, 1) := by decide +kernel
theorem d_T_init_20 : decode md_T_init.2.1 20 = .ok (.iload_n 1, 1) := by decide +kernel
theorem d_T_init_21 : decode md_T_init.2.1 21 = .ok (.iload_n 2, 1) := by decide +kernel
theorem d_T_init_22 : decode md_T_init.2.1 22 = .ok (.imul, 1) := by decide +kernel
theorem d_T_init_23 : decode md_T_init.2.1 23 = .ok (.newarray .long, 2) := by decide +kernel
theorem d_T_init_25 : decode md_T_init.2.1 25 = .ok (.putfield 21, 3) := by decide +kernel
theorem d_T_init_28 : decode md_T_init.2.1 28 = .ok (.return_, 1) := by decide +kernel
theorem d_K_withinSettings_0 : decode md_K_withinSettings.2.1 0 = .ok (.iconst 0, 1) := by decide +kernel
theorem d_K_withinSettings_1 : decode md_K_withinSettings.2.1 1 = .ok (.ldc_w 258, 3) := by decide +kernel
theorem d_K_withinSettings_4 : decode md_K_withinSettings.2.1 4 = .ok (.iload_n 0, 1) := by decide +kernel
theorem d_K_withinSettings_5 : decode md_K_withinSettings.2.1 5 = .ok (.invokestatic 259, 3) := by decide +kernel
theorem d_K_withinSettings_8 : decode md_K_withinSettings.2.1 8 = .ok (.invokestatic 265, 3) := by decide +kernel
theorem d_K_withinSettings_11 : decode md_K_withinSettings.2.1 11 = .ok (.ireturn, 1) := by decide +kernel
theorem d_K_fold_0 : decode md_K_fold.2.1 0 = .ok (.iload_n 1, 1) := by decide +kernel
theorem d_K_fold_1 : decode md_K_fold.2.1 1 = .ok (.ifCond .lt 9, 3) := by decide +kernel
theorem d_K_fold_4 : decode md_K_fold.2.1 4 = .ok (.iload_n 1, 1) := by decide +kernel
theorem d_K_fold_5 : decode md_K_fold.2.1 5 = .ok (.bipush 8, 2) := by decide +kernel
theorem d_K_fold_7 : decode md_K_fold.2.1 7 = .ok (.if_icmp .le 13, 3) := by decide +kernel
theorem d_K_fold_10 : decode md_K_fold.2.1 10 = .ok (.new 85, 3) := by decide +kernel
theorem d_K_fold_13 : decode md_K_fold.2.1 13 = .ok (.dup, 1) := by decide +kernel
theorem d_K_fold_14 : decode md_K_fold.2.1 14 = .ok (.ldc 87, 2) := by decide +kernel
theorem d_K_fold_16 : decode md_K_fold.2.1 16 = .ok (.invokespecial 89, 3) := by decide +kernel
theorem d_K_fold_19 : decode md_K_fold.2.1 19 = .ok (.athrow, 1) := by decide +kernel
theorem d_K_fold_20 : decode md_K_fold.2.1 20 = .ok (.aload_n 0, 1) := by decide +kernel
theorem d_K_fold_21 : decode md_K_fold.2.1 21 = .ok (.getfield 10, 3) := by decide +kernel
theorem d_K_fold_24 : decode md_K_fold.2.1 24 = .ok (.invokevirtual 92, 3) := by decide +kernel
theorem d_K_fold_27 : decode md_K_fold.2.1 27 = .ok (.bipush 6, 2) := by decide +kernel
theorem d_K_fold_29 : decode md_K_fold.2.1 29 = .ok (.if_icmp .lt 13, 3) := by decide +kernel
theorem d_K_fold_32 : decode md_K_fold.2.1 32 = .ok (.new 96, 3) := by decide +kernel
theorem d_K_fold_35 : decode md_K_fold.2.1 35 = .ok (.dup, 1) := by decide +kernel
theorem d_K_fold_36 : decode md_K_fold.2.1 36 = .ok (.ldc 98, 2) := by decide +kernel
theorem d_K_fold_38 : decode md_K_fold.2.1 38 = .ok (.invokespecial 100, 3) := by decide +kernel
theorem d_K_fold_41 : decode md_K_fold.2.1 41 = .ok (.athrow, 1) := by decide +kernel
theorem d_K_fold_42 : decode md_K_fold.2.1 42 = .ok (.aload_n 0, 1) := by decide +kernel
theorem d_K_fold_43 : decode md_K_fold.2.1 43 = .ok (.getfield 54, 3) := by decide +kernel
theorem d_K_fold_46 : decode md_K_fold.2.1 46 = .ok (.ifCond .le 13, 3) := by decide +kernel
theorem d_K_fold_49 : decode md_K_fold.2.1 49 = .ok (.new 96, 3) := by decide +kernel
theorem d_K_fold_52 : decode md_K_fold.2.1 52 = .ok (.dup, 1) := by decide +kernel
theorem d_K_fold_53 : decode md_K_fold.2.1 53 = .ok (.ldc 101, 2) := by decide +kernel
theorem d_K_fold_55 : decode md_K_fold.2.1 55 = .ok (.invokespecial 100, 3) := by decide +kernel
theorem d_K_fold_58 : decode md_K_fold.2.1 58 = .ok (.athrow, 1) := by decide +kernel
theorem d_K_fold_59 : decode md_K_fold.2.1 59 = .ok (.aload_n 0, 1) := by decide +kernel
theorem d_K_fold_60 : decode md_K_fold.2.1 60 = .ok (.getfield 10, 3) := by decide +kernel
theorem d_K_fold_63 : decode md_K_fold.2.1 63 = .ok (.new 103, 3) := by decide +kernel
theorem d_K_fold_66 : decode md_K_fold.2.1 66 = .ok (.dup, 1) := by decide +kernel
theorem d_K_fold_67 : decode md_K_fold.2.1 67 = .ok (.iload_n 1, 1) := by decide +kernel
theorem d_K_fold_68 : decode md_K_fold.2.1 68 = .ok (.lload_n 2, 1) := by decide +kernel
theorem d_K_fold_69 : decode md_K_fold.2.1 69 = .ok (.lload 4, 2) := by decide +kernel
theorem d_K_fold_71 : decode md_K_fold.2.1 71 = .ok (.invokespecial 105, 3) := by decide +kernel
theorem d_K_fold_74 : decode md_K_fold.2.1 74 = .ok (.invokevirtual 108, 3) := by decide +kernel
theorem d_K_fold_77 : decode md_K_fold.2.1 77 = .ok (.pop, 1) := by decide +kernel
theorem d_K_fold_78 : decode md_K_fold.2.1 78 = .ok (.aload_n 0, 1) := by decide +kernel
theorem d_K_fold_79 : decode md_K_fold.2.1 79 = .ok (.getfield 10, 3) := by decide +kernel
theorem d_K_fold_82 : decode md_K_fold.2.1 82 = .ok (.invokevirtual 92, 3) := by decide +kernel
theorem d_K_fold_85 : decode md_K_fold.2.1 85 = .ok (.iconst 1, 1) := by decide +kernel
theorem d_K_fold_86 : decode md_K_fold.2.1 86 = .ok (.isub, 1) := by decide +kernel
theorem d_K_fold_87 : decode md_K_fold.2.1 87 = .ok (.ireturn, 1) := by decide +kernel
theorem d_F_init_0 : decode md_F_init.2.1 0 = .ok (.aload_n 0, 1) := by decide +kernel
theorem d_F_init_1 : decode md_F_init.2.1 1 = .ok (.invokespecial 3, 3) := by decide +kernel
theorem d_F_init_4 : decode md_F_init.2.1 4 = .ok (.aload_n 0, 1) := by decide +kernel
theorem d_F_init_5 : decode md_F_init.2.1 5 = .ok (.iconst 0, 1) := by decide +kernel
theorem d_F_init_6 : decode md_F_init.2.1 6 = .ok (.putfield 9, 3) := by decide +kernel
theorem d_F_init_9 : decode md_F_init.2.1 9 = .ok (.aload_n 0, 1) := by decide +kernel
theorem d_F_init_10 : decode md_F_init.2.1 10 = .ok (.iconst 4, 1) := by decide +kernel
theorem d_F_init_11 : decode md_F_init.2.1 11 = .ok (.newarray .long, 2) := by decide +kernel
theorem d_F_init_13 : decode md_F_init.2.1 13 = .ok (.putfield 15, 3) := by decide +kernel
theorem d_F_init_16 : decode md_F_init.2.1 16 = .ok (.aload_n 0, 1) := by decide +kernel
theorem d_F_init_17 : decode md_F_init.2.1 17 = .ok (.iload_n 1, 1) := by decide +kernel
theorem d_F_init_18 : decode md_F_init.2.1 18 = .ok (.putfield 19, 3) := by decide +kernel
theorem d_F_init_21 : decode md_F_init.2.1 21 = .ok (.aload_n 0, 1) := by decide +kernel
theorem d_F_init_22 : decode md_F_init.2.1 22 = .ok (.lload_n 2, 1) := by decide +kernel
theorem d_F_init_23 : decode md_F_init.2.1 23 = .ok (.putfield 22, 3) := by decide +kernel
theorem d_F_init_26 : decode md_F_init.2.1 26 = .ok (.aload_n 0, 1) := by decide +kernel
theorem d_F_init_27 : decode md_F_init.2.1 27 = .ok (.lload 4, 2) := by decide +kernel
theorem d_F_init_29 : decode md_F_init.2.1 29 = .ok (.putfield 26, 3) := by decide +kernel
theorem d_F_init_32 : decode md_F_init.2.1 32 = .ok (.return_, 1) := by decide +kernel
theorem d_K_failsAt_0 : decode md_K_failsAt.2.1 0 = .ok (.aload_n 0, 1) := by decide +kernel
theorem d_K_failsAt_1 : decode md_K_failsAt.2.1 1 = .ok (.iload_n 1, 1) := by decide +kernel
theorem d_K_failsAt_2 : decode md_K_failsAt.2.1 2 = .ok (.invokevirtual 112, 3) := by decide +kernel
theorem d_K_failsAt_5 : decode md_K_failsAt.2.1 5 = .ok (.ifCond .ne 13, 3) := by decide +kernel
theorem d_K_failsAt_8 : decode md_K_failsAt.2.1 8 = .ok (.new 116, 3) := by decide +kernel
theorem d_K_failsAt_11 : decode md_K_failsAt.2.1 11 = .ok (.dup, 1) := by decide +kernel
theorem d_K_failsAt_12 : decode md_K_failsAt.2.1 12 = .ok (.ldc 118, 2) := by decide +kernel
theorem d_K_failsAt_14 : decode md_K_failsAt.2.1 14 = .ok (.invokespecial 120, 3) := by decide +kernel
theorem d_K_failsAt_17 : decode md_K_failsAt.2.1 17 = .ok (.athrow, 1) := by decide +kernel
theorem d_K_failsAt_18 : decode md_K_failsAt.2.1 18 = .ok (.aload_n 0, 1) := by decide +kernel
theorem d_K_failsAt_19 : decode md_K_failsAt.2.1 19 = .ok (.getfield 10, 3) := by decide +kernel
theorem d_K_failsAt_22 : decode md_K_failsAt.2.1 22 = .ok (.iload_n 1, 1) := by decide +kernel
theorem d_K_failsAt_23 : decode md_K_failsAt.2.1 23 = .ok (.invokevirtual 121, 3) := by decide +kernel
theorem d_K_failsAt_26 : decode md_K_failsAt.2.1 26 = .ok (.checkcast 103, 3) := by decide +kernel
theorem d_K_failsAt_29 : decode md_K_failsAt.2.1 29 = .ok (.astore 4, 2) := by decide +kernel
theorem d_K_failsAt_31 : decode md_K_failsAt.2.1 31 = .ok (.aload 4, 2) := by decide +kernel
theorem d_K_failsAt_33 : decode md_K_failsAt.2.1 33 = .ok (.getfield 125, 3) := by decide +kernel
theorem d_K_failsAt_36 : decode md_K_failsAt.2.1 36 = .ok (.iconst 4, 1) := by decide +kernel
theorem d_K_failsAt_37 : decode md_K_failsAt.2.1 37 = .ok (.if_icmp .lt 13, 3) := by decide +kernel
theorem d_K_failsAt_40 : decode md_K_failsAt.2.1 40 = .ok (.new 96, 3) := by decide +kernel
theorem d_K_failsAt_43 : decode md_K_failsAt.2.1 43 = .ok (.dup, 1) := by decide +kernel
theorem d_K_failsAt_44 : decode md_K_failsAt.2.1 44 = .ok (.ldc 128, 2) := by decide +kernel
theorem d_K_failsAt_46 : decode md_K_failsAt.2.1 46 = .ok (.invokespecial 100, 3) := by decide +kernel
theorem d_K_failsAt_49 : decode md_K_failsAt.2.1 49 = .ok (.athrow, 1) := by decide +kernel
theorem d_K_failsAt_50 : decode md_K_failsAt.2.1 50 = .ok (.aload 4, 2) := by decide +kernel
theorem d_K_failsAt_52 : decode md_K_failsAt.2.1 52 = .ok (.lload_n 2, 1) := by decide +kernel
theorem d_K_failsAt_53 : decode md_K_failsAt.2.1 53 = .ok (.invokevirtual 130, 3) := by decide +kernel
theorem d_K_failsAt_56 : decode md_K_failsAt.2.1 56 = .ok (.ifCond .eq 13, 3) := by decide +kernel
theorem d_K_failsAt_59 : decode md_K_failsAt.2.1 59 = .ok (.new 96, 3) := by decide +kernel
theorem d_K_failsAt_62 : decode md_K_failsAt.2.1 62 = .ok (.dup, 1) := by decide +kernel
theorem d_K_failsAt_63 : decode md_K_failsAt.2.1 63 = .ok (.ldc 134, 2) := by decide +kernel
theorem d_K_failsAt_65 : decode md_K_failsAt.2.1 65 = .ok (.invokespecial 100, 3) := by decide +kernel
theorem d_K_failsAt_68 : decode md_K_failsAt.2.1 68 = .ok (.athrow, 1) := by decide +kernel
theorem d_K_failsAt_69 : decode md_K_failsAt.2.1 69 = .ok (.aload 4, 2) := by decide +kernel
theorem d_K_failsAt_71 : decode md_K_failsAt.2.1 71 = .ok (.lload_n 2, 1) := by decide +kernel
theorem d_K_failsAt_72 : decode md_K_failsAt.2.1 72 = .ok (.invokevirtual 136, 3) := by decide +kernel
theorem d_K_failsAt_75 : decode md_K_failsAt.2.1 75 = .ok (.aload 4, 2) := by decide +kernel
theorem d_K_failsAt_77 : decode md_K_failsAt.2.1 77 = .ok (.getfield 125, 3) := by decide +kernel
theorem d_K_failsAt_80 : decode md_K_failsAt.2.1 80 = .ok (.ireturn, 1) := by decide +kernel
theorem d_K_isFold_0 : decode md_K_isFold.2.1 0 = .ok (.iload_n 1, 1) := by decide +kernel
theorem d_K_isFold_1 : decode md_K_isFold.2.1 1 = .ok (.ifCond .lt 18, 3) := by decide +kernel
theorem d_K_isFold_4 : decode md_K_isFold.2.1 4 = .ok (.iload_n 1, 1) := by decide +kernel
theorem d_K_isFold_5 : decode md_K_isFold.2.1 5 = .ok (.aload_n 0, 1) := by decide +kernel
theorem d_K_isFold_6 : decode md_K_isFold.2.1 6 = .ok (.getfield 10, 3) := by decide +kernel
theorem d_K_isFold_9 : decode md_K_isFold.2.1 9 = .ok (.invokevirtual 92, 3) := by decide +kernel
theorem d_K_isFold_12 : decode md_K_isFold.2.1 12 = .ok (.if_icmp .ge 7, 3) := by decide +kernel
theorem d_K_isFold_15 : decode md_K_isFold.2.1 15 = .ok (.iconst 1, 1) := by decide +kernel
theorem d_K_isFold_16 : decode md_K_isFold.2.1 16 = .ok (.goto 4, 3) := by decide +kernel
theorem d_K_isFold_19 : decode md_K_isFold.2.1 19 = .ok (.iconst 0, 1) := by decide +kernel
theorem d_K_isFold_20 : decode md_K_isFold.2.1 20 = .ok (.ireturn, 1) := by decide +kernel
theorem d_F_isFailing_0 : decode md_F_isFailing.2.1 0 = .ok (.iconst 0, 1) := by decide +kernel
theorem d_F_isFailing_1 : decode md_F_isFailing.2.1 1 = .ok (.istore_n 3, 1) := by decide +kernel
theorem d_F_isFailing_2 : decode md_F_isFailing.2.1 2 = .ok (.iload_n 3, 1) := by decide +kernel
theorem d_F_isFailing_3 : decode md_F_isFailing.2.1 3 = .ok (.aload_n 0, 1) := by decide +kernel
theorem d_F_isFailing_4 : decode md_F_isFailing.2.1 4 = .ok (.getfield 9, 3) := by decide +kernel
theorem d_F_isFailing_7 : decode md_F_isFailing.2.1 7 = .ok (.if_icmp .ge 22, 3) := by decide +kernel
theorem d_F_isFailing_10 : decode md_F_isFailing.2.1 10 = .ok (.aload_n 0, 1) := by decide +kernel
theorem d_F_isFailing_11 : decode md_F_isFailing.2.1 11 = .ok (.getfield 15, 3) := by decide +kernel
theorem d_F_isFailing_14 : decode md_F_isFailing.2.1 14 = .ok (.iload_n 3, 1) := by decide +kernel
theorem d_F_isFailing_15 : decode md_F_isFailing.2.1 15 = .ok (.laload, 1) := by decide +kernel
theorem d_F_isFailing_16 : decode md_F_isFailing.2.1 16 = .ok (.lload_n 1, 1) := by decide +kernel
theorem d_F_isFailing_17 : decode md_F_isFailing.2.1 17 = .ok (.lcmp, 1) := by decide +kernel
theorem d_F_isFailing_18 : decode md_F_isFailing.2.1 18 = .ok (.ifCond .ne 5, 3) := by decide +kernel
theorem d_F_isFailing_21 : decode md_F_isFailing.2.1 21 = .ok (.iconst 1, 1) := by decide +kernel
theorem d_F_isFailing_22 : decode md_F_isFailing.2.1 22 = .ok (.ireturn, 1) := by decide +kernel
theorem d_F_isFailing_23 : decode md_F_isFailing.2.1 23 = .ok (.iinc 3 1, 3) := by decide +kernel
theorem d_F_isFailing_26 : decode md_F_isFailing.2.1 26 = .ok (.goto (-24), 3) := by decide +kernel
theorem d_F_isFailing_29 : decode md_F_isFailing.2.1 29 = .ok (.iconst 0, 1) := by decide +kernel
theorem d_F_isFailing_30 : decode md_F_isFailing.2.1 30 = .ok (.ireturn, 1) := by decide +kernel
theorem d_F_addFailing_0 : decode md_F_addFailing.2.1 0 = .ok (.aload_n 0, 1) := by decide +kernel
theorem d_F_addFailing_1 : decode md_F_addFailing.2.1 1 = .ok (.getfield 9, 3) := by decide +kernel
theorem d_F_addFailing_4 : decode md_F_addFailing.2.1 4 = .ok (.iconst 4, 1) := by decide +kernel
theorem d_F_addFailing_5 : decode md_F_addFailing.2.1 5 = .ok (.if_icmp .ge 23, 3) := by decide +kernel
theorem d_F_addFailing_8 : decode md_F_addFailing.2.1 8 = .ok (.aload_n 0, 1) := by decide +kernel
theorem d_F_addFailing_9 : decode md_F_addFailing.2.1 9 = .ok (.getfield 15, 3) := by decide +kernel
theorem d_F_addFailing_12 : decode md_F_addFailing.2.1 12 = .ok (.aload_n 0, 1) := by decide +kernel
theorem d_F_addFailing_13 : decode md_F_addFailing.2.1 13 = .ok (.getfield 9, 3) := by decide +kernel
theorem d_F_addFailing_16 : decode md_F_addFailing.2.1 16 = .ok (.lload_n 1, 1) := by decide +kernel
theorem d_F_addFailing_17 : decode md_F_addFailing.2.1 17 = .ok (.lastore, 1) := by decide +kernel
theorem d_F_addFailing_18 : decode md_F_addFailing.2.1 18 = .ok (.aload_n 0, 1) := by decide +kernel
theorem d_F_addFailing_19 : decode md_F_addFailing.2.1 19 = .ok (.dup, 1) := by decide +kernel
theorem d_F_addFailing_20 : decode md_F_addFailing.2.1 20 = .ok (.getfield 9, 3) := by decide +kernel
theorem d_F_addFailing_23 : decode md_F_addFailing.2.1 23 = .ok (.iconst 1, 1) := by decide +kernel
theorem d_F_addFailing_24 : decode md_F_addFailing.2.1 24 = .ok (.iadd, 1) := by decide +kernel
theorem d_F_addFailing_25 : decode md_F_addFailing.2.1 25 = .ok (.putfield 9, 3) := by decide +kernel
theorem d_F_addFailing_28 : decode md_F_addFailing.2.1 28 = .ok (.return_, 1) := by decide +kernel
theorem d_K_rule_0 : decode md_K_rule.2.1 0 = .ok (.iload_n 1, 1) := by decide +kernel
theorem d_K_rule_1 : decode md_K_rule.2.1 1 = .ok (.ifCond .lt 8, 3) := by decide +kernel
theorem d_K_rule_4 : decode md_K_rule.2.1 4 = .ok (.iload_n 1, 1) := by decide +kernel
theorem d_K_rule_5 : decode md_K_rule.2.1 5 = .ok (.iconst 1, 1) := by decide +kernel
theorem d_K_rule_6 : decode md_K_rule.2.1 6 = .ok (.if_icmp .le 13, 3) := by decide +kernel
theorem d_K_rule_9 : decode md_K_rule.2.1 9 = .ok (.new 85, 3) := by decide +kernel
theorem d_K_rule_12 : decode md_K_rule.2.1 12 = .ok (.dup, 1) := by decide +kernel
theorem d_K_rule_13 : decode md_K_rule.2.1 13 = .ok (.ldc 140, 2) := by decide +kernel
theorem d_K_rule_15 : decode md_K_rule.2.1 15 = .ok (.invokespecial 89, 3) := by decide +kernel
theorem d_K_rule_18 : decode md_K_rule.2.1 18 = .ok (.athrow, 1) := by decide +kernel
theorem d_K_rule_19 : decode md_K_rule.2.1 19 = .ok (.iload_n 2, 1) := by decide +kernel
theorem d_K_rule_20 : decode md_K_rule.2.1 20 = .ok (.ifCond .lt 8, 3) := by decide +kernel
theorem d_K_rule_23 : decode md_K_rule.2.1 23 = .ok (.iload_n 2, 1) := by decide +kernel
theorem d_K_rule_24 : decode md_K_rule.2.1 24 = .ok (.iconst 2, 1) := by decide +kernel
theorem d_K_rule_25 : decode md_K_rule.2.1 25 = .ok (.if_icmp .le 13, 3) := by decide +kernel
theorem d_K_rule_28 : decode md_K_rule.2.1 28 = .ok (.new 85, 3) := by decide +kernel
theorem d_K_rule_31 : decode md_K_rule.2.1 31 = .ok (.dup, 1) := by decide +kernel
theorem d_K_rule_32 : decode md_K_rule.2.1 32 = .ok (.ldc 142, 2) := by decide +kernel
theorem d_K_rule_34 : decode md_K_rule.2.1 34 = .ok (.invokespecial 89, 3) := by decide +kernel
theorem d_K_rule_37 : decode md_K_rule.2.1 37 = .ok (.athrow, 1) := by decide +kernel
theorem d_K_rule_38 : decode md_K_rule.2.1 38 = .ok (.iload_n 1, 1) := by decide +kernel
theorem d_K_rule_39 : decode md_K_rule.2.1 39 = .ok (.ifCond .ne 16, 3) := by decide +kernel
theorem d_K_rule_42 : decode md_K_rule.2.1 42 = .ok (.aload_n 0, 1) := by decide +kernel
theorem d_K_rule_43 : decode md_K_rule.2.1 43 = .ok (.getfield 38, 3) := by decide +kernel
theorem d_K_rule_46 : decode md_K_rule.2.1 46 = .ok (.istore_n 3, 1) := by decide +kernel
theorem d_K_rule_47 : decode md_K_rule.2.1 47 = .ok (.aload_n 0, 1) := by decide +kernel
theorem d_K_rule_48 : decode md_K_rule.2.1 48 = .ok (.iload_n 2, 1) := by decide +kernel
theorem d_K_rule_49 : decode md_K_rule.2.1 49 = .ok (.putfield 38, 3) := by decide +kernel
theorem d_K_rule_52 : decode md_K_rule.2.1 52 = .ok (.goto 13, 3) := by decide +kernel
theorem d_K_rule_55 : decode md_K_rule.2.1 55 = .ok (.aload_n 0, 1) := by decide +kernel
theorem d_K_rule_56 : decode md_K_rule.2.1 56 = .ok (.getfield 42, 3) := by decide +kernel
theorem d_K_rule_59 : decode md_K_rule.2.1 59 = .ok (.istore_n 3, 1) := by decide +kernel
theorem d_K_rule_60 : decode md_K_rule.2.1 60 = .ok (.aload_n 0, 1) := by decide +kernel
theorem d_K_rule_61 : decode md_K_rule.2.1 61 = .ok (.iload_n 2, 1) := by decide +kernel
theorem d_K_rule_62 : decode md_K_rule.2.1 62 = .ok (.putfield 42, 3) := by decide +kernel
theorem d_K_rule_65 : decode md_K_rule.2.1 65 = .ok (.iload_n 3, 1) := by decide +kernel
theorem d_K_rule_66 : decode md_K_rule.2.1 66 = .ok (.ireturn, 1) := by decide +kernel
theorem d_K_row_0 : decode md_K_row.2.1 0 = .ok (.lload_n 3, 1) := by decide +kernel
theorem d_K_row_1 : decode md_K_row.2.1 1 = .ok (.lconst 0, 1) := by decide +kernel
theorem d_K_row_2 : decode md_K_row.2.1 2 = .ok (.lcmp, 1) := by decide +kernel
theorem d_K_row_3 : decode md_K_row.2.1 3 = .ok (.ifCond .lt 11, 3) := by decide +kernel
theorem d_K_row_6 : decode md_K_row.2.1 6 = .ok (.lload_n 3, 1) := by decide +kernel
theorem d_K_row_7 : decode md_K_row.2.1 7 = .ok (.ldc2_w 144, 3) := by decide +kernel
theorem d_K_row_10 : decode md_K_row.2.1 10 = .ok (.lcmp, 1) := by decide +kernel
theorem d_K_row_11 : decode md_K_row.2.1 11 = .ok (.ifCond .le 13, 3) := by decide +kernel
theorem d_K_row_14 : decode md_K_row.2.1 14 = .ok (.new 85, 3) := by decide +kernel
theorem d_K_row_17 : decode md_K_row.2.1 17 = .ok (.dup, 1) := by decide +kernel
theorem d_K_row_18 : decode md_K_row.2.1 18 = .ok (.ldc 146, 2) := by decide +kernel
theorem d_K_row_20 : decode md_K_row.2.1 20 = .ok (.invokespecial 89, 3) := by decide +kernel
theorem d_K_row_23 : decode md_K_row.2.1 23 = .ok (.athrow, 1) := by decide +kernel
theorem d_K_row_24 : decode md_K_row.2.1 24 = .ok (.aload_n 0, 1) := by decide +kernel
theorem d_K_row_25 : decode md_K_row.2.1 25 = .ok (.getfield 10, 3) := by decide +kernel
theorem d_K_row_28 : decode md_K_row.2.1 28 = .ok (.invokevirtual 148, 3) := by decide +kernel
theorem d_K_row_31 : decode md_K_row.2.1 31 = .ok (.ifCond .eq 13, 3) := by decide +kernel
theorem d_K_row_34 : decode md_K_row.2.1 34 = .ok (.new 96, 3) := by decide +kernel
theorem d_K_row_37 : decode md_K_row.2.1 37 = .ok (.dup, 1) := by decide +kernel
theorem d_K_row_38 : decode md_K_row.2.1 38 = .ok (.ldc 152, 2) := by decide +kernel
theorem d_K_row_40 : decode md_K_row.2.1 40 = .ok (.invokespecial 100, 3) := by decide +kernel
theorem d_K_row_43 : decode md_K_row.2.1 43 = .ok (.athrow, 1) := by decide +kernel
theorem d_K_row_44 : decode md_K_row.2.1 44 = .ok (.aload_n 0, 1) := by decide +kernel
theorem d_K_row_45 : decode md_K_row.2.1 45 = .ok (.getfield 22, 3) := by decide +kernel
theorem d_K_row_48 : decode md_K_row.2.1 48 = .ok (.lload_n 1, 1) := by decide +kernel
theorem d_K_row_49 : decode md_K_row.2.1 49 = .ok (.invokevirtual 154, 3) := by decide +kernel
theorem d_K_row_52 : decode md_K_row.2.1 52 = .ok (.ifCond .eq 13, 3) := by decide +kernel
theorem d_K_row_55 : decode md_K_row.2.1 55 = .ok (.new 96, 3) := by decide +kernel
theorem d_K_row_58 : decode md_K_row.2.1 58 = .ok (.dup, 1) := by decide +kernel
theorem d_K_row_59 : decode md_K_row.2.1 59 = .ok (.ldc 157, 2) := by decide +kernel
theorem d_K_row_61 : decode md_K_row.2.1 61 = .ok (.invokespecial 100, 3) := by decide +kernel
theorem d_K_row_64 : decode md_K_row.2.1 64 = .ok (.athrow, 1) := by decide +kernel
theorem d_K_row_65 : decode md_K_row.2.1 65 = .ok (.aload_n 0, 1) := by decide +kernel
theorem d_K_row_66 : decode md_K_row.2.1 66 = .ok (.lload_n 1, 1) := by decide +kernel
theorem d_K_row_67 : decode md_K_row.2.1 67 = .ok (.lload_n 3, 1) := by decide +kernel
theorem d_K_row_68 : decode md_K_row.2.1 68 = .ok (.lload 5, 2) := by decide +kernel
theorem d_K_row_70 : decode md_K_row.2.1 70 = .ok (.invokevirtual 159, 3) := by decide +kernel
theorem d_K_row_73 : decode md_K_row.2.1 73 = .ok (.istore 7, 2) := by decide +kernel
theorem d_K_row_75 : decode md_K_row.2.1 75 = .ok (.iload 7, 2) := by decide +kernel
theorem d_K_row_77 : decode md_K_row.2.1 77 = .ok (.ifCond .ne 21, 3) := by decide +kernel
theorem d_K_row_80 : decode md_K_row.2.1 80 = .ok (.aload_n 0, 1) := by decide +kernel
theorem d_K_row_81 : decode md_K_row.2.1 81 = .ok (.lload_n 1, 1) := by decide +kernel
theorem d_K_row_82 : decode md_K_row.2.1 82 = .ok (.invokevirtual 163, 3) := by decide +kernel
theorem d_K_row_85 : decode md_K_row.2.1 85 = .ok (.ifCond .ne 13, 3) := by decide +kernel
theorem d_K_row_88 : decode md_K_row.2.1 88 = .ok (.new 96, 3) := by decide +kernel
theorem d_K_row_91 : decode md_K_row.2.1 91 = .ok (.dup, 1) := by decide +kernel
theorem d_K_row_92 : decode md_K_row.2.1 92 = .ok (.ldc 166, 2) := by decide +kernel
theorem d_K_row_94 : decode md_K_row.2.1 94 = .ok (.invokespecial 100, 3) := by decide +kernel
theorem d_K_row_97 : decode md_K_row.2.1 97 = .ok (.athrow, 1) := by decide +kernel
theorem d_K_row_98 : decode md_K_row.2.1 98 = .ok (.aload_n 0, 1) := by decide +kernel
theorem d_K_row_99 : decode md_K_row.2.1 99 = .ok (.lload_n 3, 1) := by decide +kernel
theorem d_K_row_100 : decode md_K_row.2.1 100 = .ok (.invokevirtual 168, 3) := by decide +kernel
theorem d_K_row_103 : decode md_K_row.2.1 103 = .ok (.ifCond .eq 13, 3) := by decide +kernel
theorem d_K_row_106 : decode md_K_row.2.1 106 = .ok (.aload_n 0, 1) := by decide +kernel
theorem d_K_row_107 : decode md_K_row.2.1 107 = .ok (.dup, 1) := by decide +kernel
theorem d_K_row_108 : decode md_K_row.2.1 108 = .ok (.getfield 57, 3) := by decide +kernel
theorem d_K_row_111 : decode md_K_row.2.1 111 = .ok (.iconst 1, 1) := by decide +kernel
theorem d_K_row_112 : decode md_K_row.2.1 112 = .ok (.iadd, 1) := by decide +kernel
theorem d_K_row_113 : decode md_K_row.2.1 113 = .ok (.putfield 57, 3) := by decide +kernel
theorem d_K_row_116 : decode md_K_row.2.1 116 = .ok (.iload 7, 2) := by decide +kernel
theorem d_K_row_118 : decode md_K_row.2.1 118 = .ok (.ifCond .ne 22, 3) := by decide +kernel
theorem d_K_row_121 : decode md_K_row.2.1 121 = .ok (.aload_n 0, 1) := by decide +kernel
theorem d_K_row_122 : decode md_K_row.2.1 122 = .ok (.lload_n 1, 1) := by decide +kernel
theorem d_K_row_123 : decode md_K_row.2.1 123 = .ok (.lload_n 3, 1) := by decide +kernel
theorem d_K_row_124 : decode md_K_row.2.1 124 = .ok (.lload 5, 2) := by decide +kernel
theorem d_K_row_126 : decode md_K_row.2.1 126 = .ok (.invokevirtual 171, 3) := by decide +kernel
theorem d_K_row_129 : decode md_K_row.2.1 129 = .ok (.aload_n 0, 1) := by decide +kernel
theorem d_K_row_130 : decode md_K_row.2.1 130 = .ok (.invokevirtual 175, 3) := by decide +kernel
theorem d_K_row_133 : decode md_K_row.2.1 133 = .ok (.aload_n 0, 1) := by decide +kernel
theorem d_K_row_134 : decode md_K_row.2.1 134 = .ok (.invokevirtual 178, 3) := by decide +kernel
theorem d_K_row_137 : decode md_K_row.2.1 137 = .ok (.goto 13, 3) := by decide +kernel
theorem d_K_row_140 : decode md_K_row.2.1 140 = .ok (.aload_n 0, 1) := by decide +kernel
theorem d_K_row_141 : decode md_K_row.2.1 141 = .ok (.iload 7, 2) := by decide +kernel
theorem d_K_row_143 : decode md_K_row.2.1 143 = .ok (.lload_n 1, 1) := by decide +kernel
theorem d_K_row_144 : decode md_K_row.2.1 144 = .ok (.lload_n 3, 1) := by decide +kernel
theorem d_K_row_145 : decode md_K_row.2.1 145 = .ok (.lload 5, 2) := by decide +kernel
theorem d_K_row_147 : decode md_K_row.2.1 147 = .ok (.invokevirtual 181, 3) := by decide +kernel
theorem d_K_row_150 : decode md_K_row.2.1 150 = .ok (.iload 7, 2) := by decide +kernel
theorem d_K_row_152 : decode md_K_row.2.1 152 = .ok (.ireturn, 1) := by decide +kernel
theorem d_S_has_0 : decode md_S_has.2.1 0 = .ok (.aload_n 0, 1) := by decide +kernel
theorem d_S_has_1 : decode md_S_has.2.1 1 = .ok (.lload_n 1, 1) := by decide +kernel
theorem d_S_has_2 : decode md_S_has.2.1 2 = .ok (.invokevirtual 19, 3) := by decide +kernel
theorem d_S_has_5 : decode md_S_has.2.1 5 = .ok (.iconst (-1), 1) := by decide +kernel
theorem d_S_has_6 : decode md_S_has.2.1 6 = .ok (.if_icmp .eq 7, 3) := by decide +kernel
theorem d_S_has_9 : decode md_S_has.2.1 9 = .ok (.iconst 1, 1) := by decide +kernel
theorem d_S_has_10 : decode md_S_has.2.1 10 = .ok (.goto 4, 3) := by decide +kernel
theorem d_S_has_13 : decode md_S_has.2.1 13 = .ok (.iconst 0, 1) := by decide +kernel
theorem d_S_has_14 : decode md_S_has.2.1 14 = .ok (.ireturn, 1) := by decide +kernel
theorem d_S_placeOf_0 : decode md_S_placeOf.2.1 0 = .ok (.iconst 0, 1) := by decide +kernel
theorem d_S_placeOf_1 : decode md_S_placeOf.2.1 1 = .ok (.istore_n 3, 1) := by decide +kernel
theorem d_S_placeOf_2 : decode md_S_placeOf.2.1 2 = .ok (.iload_n 3, 1) := by decide +kernel
theorem d_S_placeOf_3 : decode md_S_placeOf.2.1 3 = .ok (.aload_n 0, 1) := by decide +kernel
theorem d_S_placeOf_4 : decode md_S_placeOf.2.1 4 = .ok (.getfield 15, 3) := by decide +kernel
theorem d_S_placeOf_7 : decode md_S_placeOf.2.1 7 = .ok (.if_icmp .ge 22, 3) := by decide +kernel
theorem d_S_placeOf_10 : decode md_S_placeOf.2.1 10 = .ok (.aload_n 0, 1) := by decide +kernel
theorem d_S_placeOf_11 : decode md_S_placeOf.2.1 11 = .ok (.getfield 9, 3) := by decide +kernel
theorem d_S_placeOf_14 : decode md_S_placeOf.2.1 14 = .ok (.iload_n 3, 1) := by decide +kernel
theorem d_S_placeOf_15 : decode md_S_placeOf.2.1 15 = .ok (.laload, 1) := by decide +kernel
theorem d_S_placeOf_16 : decode md_S_placeOf.2.1 16 = .ok (.lload_n 1, 1) := by decide +kernel
theorem d_S_placeOf_17 : decode md_S_placeOf.2.1 17 = .ok (.lcmp, 1) := by decide +kernel
theorem d_S_placeOf_18 : decode md_S_placeOf.2.1 18 = .ok (.ifCond .ne 5, 3) := by decide +kernel
theorem d_S_placeOf_21 : decode md_S_placeOf.2.1 21 = .ok (.iload_n 3, 1) := by decide +kernel
theorem d_S_placeOf_22 : decode md_S_placeOf.2.1 22 = .ok (.ireturn, 1) := by decide +kernel
theorem d_S_placeOf_23 : decode md_S_placeOf.2.1 23 = .ok (.iinc 3 1, 3) := by decide +kernel
theorem d_S_placeOf_26 : decode md_S_placeOf.2.1 26 = .ok (.goto (-24), 3) := by decide +kernel
end
section
theorem d_S_placeOf_29 : decode md_S_placeOf.2.1 29 = .ok (.iconst (-1), 1) := by decide +kernel
theorem d_S_placeOf_30 : decode md_S_placeOf.2.1 30 = .ok (.ireturn, 1) := by decide +kernel
theorem d_K_codeOf_0 : decode md_K_codeOf.2.1 0 = .ok (.aload_n 0, 1) := by decide +kernel
theorem d_K_codeOf_1 : decode md_K_codeOf.2.1 1 = .ok (.lload_n 3, 1) := by decide +kernel
theorem d_K_codeOf_2 : decode md_K_codeOf.2.1 2 = .ok (.invokevirtual 168, 3) := by decide +kernel
theorem d_K_codeOf_5 : decode md_K_codeOf.2.1 5 = .ok (.ifCond .eq 12, 3) := by decide +kernel
theorem d_K_codeOf_8 : decode md_K_codeOf.2.1 8 = .ok (.aload_n 0, 1) := by decide +kernel
theorem d_K_codeOf_9 : decode md_K_codeOf.2.1 9 = .ok (.getfield 38, 3) := by decide +kernel
theorem d_K_codeOf_12 : decode md_K_codeOf.2.1 12 = .ok (.ifCond .ne 5, 3) := by decide +kernel
theorem d_K_codeOf_15 : decode md_K_codeOf.2.1 15 = .ok (.iconst 1, 1) := by decide +kernel
theorem d_K_codeOf_16 : decode md_K_codeOf.2.1 16 = .ok (.ireturn, 1) := by decide +kernel
theorem d_K_codeOf_17 : decode md_K_codeOf.2.1 17 = .ok (.aload_n 0, 1) := by decide +kernel
theorem d_K_codeOf_18 : decode md_K_codeOf.2.1 18 = .ok (.lload_n 3, 1) := by decide +kernel
theorem d_K_codeOf_19 : decode md_K_codeOf.2.1 19 = .ok (.invokevirtual 168, 3) := by decide +kernel
theorem d_K_codeOf_22 : decode md_K_codeOf.2.1 22 = .ok (.ifCond .eq 13, 3) := by decide +kernel
theorem d_K_codeOf_25 : decode md_K_codeOf.2.1 25 = .ok (.aload_n 0, 1) := by decide +kernel
theorem d_K_codeOf_26 : decode md_K_codeOf.2.1 26 = .ok (.getfield 38, 3) := by decide +kernel
theorem d_K_codeOf_29 : decode md_K_codeOf.2.1 29 = .ok (.iconst 1, 1) := by decide +kernel
theorem d_K_codeOf_30 : decode md_K_codeOf.2.1 30 = .ok (.if_icmp .ne 5, 3) := by decide +kernel
theorem d_K_codeOf_33 : decode md_K_codeOf.2.1 33 = .ok (.iconst 2, 1) := by decide +kernel
theorem d_K_codeOf_34 : decode md_K_codeOf.2.1 34 = .ok (.ireturn, 1) := by decide +kernel
theorem d_K_codeOf_35 : decode md_K_codeOf.2.1 35 = .ok (.aload_n 0, 1) := by decide +kernel
theorem d_K_codeOf_36 : decode md_K_codeOf.2.1 36 = .ok (.lload_n 1, 1) := by decide +kernel
theorem d_K_codeOf_37 : decode md_K_codeOf.2.1 37 = .ok (.invokevirtual 190, 3) := by decide +kernel
theorem d_K_codeOf_40 : decode md_K_codeOf.2.1 40 = .ok (.istore 7, 2) := by decide +kernel
theorem d_K_codeOf_42 : decode md_K_codeOf.2.1 42 = .ok (.iload 7, 2) := by decide +kernel
theorem d_K_codeOf_44 : decode md_K_codeOf.2.1 44 = .ok (.ifCond .lt 30, 3) := by decide +kernel
theorem d_K_codeOf_47 : decode md_K_codeOf.2.1 47 = .ok (.aload_n 0, 1) := by decide +kernel
theorem d_K_codeOf_48 : decode md_K_codeOf.2.1 48 = .ok (.getfield 16, 3) := by decide +kernel
theorem d_K_codeOf_51 : decode md_K_codeOf.2.1 51 = .ok (.iload 7, 2) := by decide +kernel
theorem d_K_codeOf_53 : decode md_K_codeOf.2.1 53 = .ok (.invokevirtual 121, 3) := by decide +kernel
theorem d_K_codeOf_56 : decode md_K_codeOf.2.1 56 = .ok (.checkcast 196, 3) := by decide +kernel
theorem d_K_codeOf_59 : decode md_K_codeOf.2.1 59 = .ok (.lload_n 3, 1) := by decide +kernel
theorem d_K_codeOf_60 : decode md_K_codeOf.2.1 60 = .ok (.lload 5, 2) := by decide +kernel
theorem d_K_codeOf_62 : decode md_K_codeOf.2.1 62 = .ok (.aload_n 0, 1) := by decide +kernel
theorem d_K_codeOf_63 : decode md_K_codeOf.2.1 63 = .ok (.getfield 79, 3) := by decide +kernel
theorem d_K_codeOf_66 : decode md_K_codeOf.2.1 66 = .ok (.invokevirtual 271, 3) := by decide +kernel
theorem d_K_codeOf_69 : decode md_K_codeOf.2.1 69 = .ok (.ifCond .eq 5, 3) := by decide +kernel
theorem d_K_codeOf_72 : decode md_K_codeOf.2.1 72 = .ok (.iconst 3, 1) := by decide +kernel
theorem d_K_codeOf_73 : decode md_K_codeOf.2.1 73 = .ok (.ireturn, 1) := by decide +kernel
theorem d_K_codeOf_74 : decode md_K_codeOf.2.1 74 = .ok (.aload_n 0, 1) := by decide +kernel
theorem d_K_codeOf_75 : decode md_K_codeOf.2.1 75 = .ok (.lload 5, 2) := by decide +kernel
theorem d_K_codeOf_77 : decode md_K_codeOf.2.1 77 = .ok (.invokevirtual 275, 3) := by decide +kernel
theorem d_K_codeOf_80 : decode md_K_codeOf.2.1 80 = .ok (.iconst (-1), 1) := by decide +kernel
theorem d_K_codeOf_81 : decode md_K_codeOf.2.1 81 = .ok (.if_icmp .ne 5, 3) := by decide +kernel
theorem d_K_codeOf_84 : decode md_K_codeOf.2.1 84 = .ok (.iconst 0, 1) := by decide +kernel
theorem d_K_codeOf_85 : decode md_K_codeOf.2.1 85 = .ok (.ireturn, 1) := by decide +kernel
theorem d_K_codeOf_86 : decode md_K_codeOf.2.1 86 = .ok (.aload_n 0, 1) := by decide +kernel
theorem d_K_codeOf_87 : decode md_K_codeOf.2.1 87 = .ok (.getfield 42, 3) := by decide +kernel
theorem d_K_codeOf_90 : decode md_K_codeOf.2.1 90 = .ok (.ifCond .ne 5, 3) := by decide +kernel
theorem d_K_codeOf_93 : decode md_K_codeOf.2.1 93 = .ok (.iconst 4, 1) := by decide +kernel
theorem d_K_codeOf_94 : decode md_K_codeOf.2.1 94 = .ok (.ireturn, 1) := by decide +kernel
theorem d_K_codeOf_95 : decode md_K_codeOf.2.1 95 = .ok (.aload_n 0, 1) := by decide +kernel
theorem d_K_codeOf_96 : decode md_K_codeOf.2.1 96 = .ok (.getfield 42, 3) := by decide +kernel
theorem d_K_codeOf_99 : decode md_K_codeOf.2.1 99 = .ok (.iconst 1, 1) := by decide +kernel
theorem d_K_codeOf_100 : decode md_K_codeOf.2.1 100 = .ok (.if_icmp .ne 7, 3) := by decide +kernel
theorem d_K_codeOf_103 : decode md_K_codeOf.2.1 103 = .ok (.iconst 5, 1) := by decide +kernel
theorem d_K_codeOf_104 : decode md_K_codeOf.2.1 104 = .ok (.goto 5, 3) := by decide +kernel
theorem d_K_codeOf_107 : decode md_K_codeOf.2.1 107 = .ok (.bipush 6, 2) := by decide +kernel
theorem d_K_codeOf_109 : decode md_K_codeOf.2.1 109 = .ok (.ireturn, 1) := by decide +kernel
theorem d_K_isLate_0 : decode md_K_isLate.2.1 0 = .ok (.aload_n 0, 1) := by decide +kernel
theorem d_K_isLate_1 : decode md_K_isLate.2.1 1 = .ok (.invokevirtual 235, 3) := by decide +kernel
theorem d_K_isLate_4 : decode md_K_isLate.2.1 4 = .ok (.ifCond .eq 16, 3) := by decide +kernel
theorem d_K_isLate_7 : decode md_K_isLate.2.1 7 = .ok (.lload_n 1, 1) := by decide +kernel
theorem d_K_isLate_8 : decode md_K_isLate.2.1 8 = .ok (.aload_n 0, 1) := by decide +kernel
theorem d_K_isLate_9 : decode md_K_isLate.2.1 9 = .ok (.invokevirtual 240, 3) := by decide +kernel
theorem d_K_isLate_12 : decode md_K_isLate.2.1 12 = .ok (.lcmp, 1) := by decide +kernel
theorem d_K_isLate_13 : decode md_K_isLate.2.1 13 = .ok (.ifCond .ge 7, 3) := by decide +kernel
theorem d_K_isLate_16 : decode md_K_isLate.2.1 16 = .ok (.iconst 1, 1) := by decide +kernel
theorem d_K_isLate_17 : decode md_K_isLate.2.1 17 = .ok (.goto 4, 3) := by decide +kernel
theorem d_K_isLate_20 : decode md_K_isLate.2.1 20 = .ok (.iconst 0, 1) := by decide +kernel
theorem d_K_isLate_21 : decode md_K_isLate.2.1 21 = .ok (.ireturn, 1) := by decide +kernel
theorem d_K_hasWatermark_0 : decode md_K_hasWatermark.2.1 0 = .ok (.aload_n 0, 1) := by decide +kernel
theorem d_K_hasWatermark_1 : decode md_K_hasWatermark.2.1 1 = .ok (.getfield 47, 3) := by decide +kernel
theorem d_K_hasWatermark_4 : decode md_K_hasWatermark.2.1 4 = .ok (.ldc2_w 45, 3) := by decide +kernel
theorem d_K_hasWatermark_7 : decode md_K_hasWatermark.2.1 7 = .ok (.lcmp, 1) := by decide +kernel
theorem d_K_hasWatermark_8 : decode md_K_hasWatermark.2.1 8 = .ok (.ifCond .eq 7, 3) := by decide +kernel
theorem d_K_hasWatermark_11 : decode md_K_hasWatermark.2.1 11 = .ok (.iconst 1, 1) := by decide +kernel
theorem d_K_hasWatermark_12 : decode md_K_hasWatermark.2.1 12 = .ok (.goto 4, 3) := by decide +kernel
theorem d_K_hasWatermark_15 : decode md_K_hasWatermark.2.1 15 = .ok (.iconst 0, 1) := by decide +kernel
theorem d_K_hasWatermark_16 : decode md_K_hasWatermark.2.1 16 = .ok (.ireturn, 1) := by decide +kernel
theorem d_K_watermarkTime_0 : decode md_K_watermarkTime.2.1 0 = .ok (.aload_n 0, 1) := by decide +kernel
theorem d_K_watermarkTime_1 : decode md_K_watermarkTime.2.1 1 = .ok (.getfield 47, 3) := by decide +kernel
theorem d_K_watermarkTime_4 : decode md_K_watermarkTime.2.1 4 = .ok (.aload_n 0, 1) := by decide +kernel
theorem d_K_watermarkTime_5 : decode md_K_watermarkTime.2.1 5 = .ok (.getfield 73, 3) := by decide +kernel
theorem d_K_watermarkTime_8 : decode md_K_watermarkTime.2.1 8 = .ok (.i2l, 1) := by decide +kernel
theorem d_K_watermarkTime_9 : decode md_K_watermarkTime.2.1 9 = .ok (.lsub, 1) := by decide +kernel
theorem d_K_watermarkTime_10 : decode md_K_watermarkTime.2.1 10 = .ok (.lreturn, 1) := by decide +kernel
theorem d_K_placeOfKey_0 : decode md_K_placeOfKey.2.1 0 = .ok (.iconst 0, 1) := by decide +kernel
theorem d_K_placeOfKey_1 : decode md_K_placeOfKey.2.1 1 = .ok (.istore_n 3, 1) := by decide +kernel
theorem d_K_placeOfKey_2 : decode md_K_placeOfKey.2.1 2 = .ok (.iload_n 3, 1) := by decide +kernel
theorem d_K_placeOfKey_3 : decode md_K_placeOfKey.2.1 3 = .ok (.aload_n 0, 1) := by decide +kernel
theorem d_K_placeOfKey_4 : decode md_K_placeOfKey.2.1 4 = .ok (.getfield 16, 3) := by decide +kernel
theorem d_K_placeOfKey_7 : decode md_K_placeOfKey.2.1 7 = .ok (.invokevirtual 92, 3) := by decide +kernel
theorem d_K_placeOfKey_10 : decode md_K_placeOfKey.2.1 10 = .ok (.if_icmp .ge 30, 3) := by decide +kernel
theorem d_K_placeOfKey_13 : decode md_K_placeOfKey.2.1 13 = .ok (.aload_n 0, 1) := by decide +kernel
theorem d_K_placeOfKey_14 : decode md_K_placeOfKey.2.1 14 = .ok (.getfield 16, 3) := by decide +kernel
theorem d_K_placeOfKey_17 : decode md_K_placeOfKey.2.1 17 = .ok (.iload_n 3, 1) := by decide +kernel
theorem d_K_placeOfKey_18 : decode md_K_placeOfKey.2.1 18 = .ok (.invokevirtual 121, 3) := by decide +kernel
theorem d_K_placeOfKey_21 : decode md_K_placeOfKey.2.1 21 = .ok (.checkcast 196, 3) := by decide +kernel
theorem d_K_placeOfKey_24 : decode md_K_placeOfKey.2.1 24 = .ok (.getfield 268, 3) := by decide +kernel
theorem d_K_placeOfKey_27 : decode md_K_placeOfKey.2.1 27 = .ok (.lload_n 1, 1) := by decide +kernel
theorem d_K_placeOfKey_28 : decode md_K_placeOfKey.2.1 28 = .ok (.lcmp, 1) := by decide +kernel
theorem d_K_placeOfKey_29 : decode md_K_placeOfKey.2.1 29 = .ok (.ifCond .ne 5, 3) := by decide +kernel
theorem d_K_placeOfKey_32 : decode md_K_placeOfKey.2.1 32 = .ok (.iload_n 3, 1) := by decide +kernel
theorem d_K_placeOfKey_33 : decode md_K_placeOfKey.2.1 33 = .ok (.ireturn, 1) := by decide +kernel
theorem d_K_placeOfKey_34 : decode md_K_placeOfKey.2.1 34 = .ok (.iinc 3 1, 3) := by decide +kernel
theorem d_K_placeOfKey_37 : decode md_K_placeOfKey.2.1 37 = .ok (.goto (-35), 3) := by decide +kernel
theorem d_K_placeOfKey_40 : decode md_K_placeOfKey.2.1 40 = .ok (.iconst (-1), 1) := by decide +kernel
theorem d_K_placeOfKey_41 : decode md_K_placeOfKey.2.1 41 = .ok (.ireturn, 1) := by decide +kernel
theorem d_R_hasNear_0 : decode md_R_hasNear.2.1 0 = .ok (.iconst 0, 1) := by decide +kernel
theorem d_R_hasNear_1 : decode md_R_hasNear.2.1 1 = .ok (.istore 6, 2) := by decide +kernel
theorem d_R_hasNear_3 : decode md_R_hasNear.2.1 3 = .ok (.iload 6, 2) := by decide +kernel
theorem d_R_hasNear_5 : decode md_R_hasNear.2.1 5 = .ok (.aload_n 0, 1) := by decide +kernel
theorem d_R_hasNear_6 : decode md_R_hasNear.2.1 6 = .ok (.getfield 18, 3) := by decide +kernel
theorem d_R_hasNear_9 : decode md_R_hasNear.2.1 9 = .ok (.if_icmp .ge 42, 3) := by decide +kernel
theorem d_R_hasNear_12 : decode md_R_hasNear.2.1 12 = .ok (.aload_n 0, 1) := by decide +kernel
theorem d_R_hasNear_13 : decode md_R_hasNear.2.1 13 = .ok (.getfield 15, 3) := by decide +kernel
theorem d_R_hasNear_16 : decode md_R_hasNear.2.1 16 = .ok (.iload 6, 2) := by decide +kernel
theorem d_R_hasNear_18 : decode md_R_hasNear.2.1 18 = .ok (.laload, 1) := by decide +kernel
theorem d_R_hasNear_19 : decode md_R_hasNear.2.1 19 = .ok (.lload_n 3, 1) := by decide +kernel
theorem d_R_hasNear_20 : decode md_R_hasNear.2.1 20 = .ok (.lcmp, 1) := by decide +kernel
theorem d_R_hasNear_21 : decode md_R_hasNear.2.1 21 = .ok (.ifCond .ne 24, 3) := by decide +kernel
theorem d_R_hasNear_24 : decode md_R_hasNear.2.1 24 = .ok (.aload_n 0, 1) := by decide +kernel
theorem d_R_hasNear_25 : decode md_R_hasNear.2.1 25 = .ok (.getfield 9, 3) := by decide +kernel
theorem d_R_hasNear_28 : decode md_R_hasNear.2.1 28 = .ok (.iload 6, 2) := by decide +kernel
theorem d_R_hasNear_30 : decode md_R_hasNear.2.1 30 = .ok (.laload, 1) := by decide +kernel
theorem d_R_hasNear_31 : decode md_R_hasNear.2.1 31 = .ok (.lload_n 1, 1) := by decide +kernel
theorem d_R_hasNear_32 : decode md_R_hasNear.2.1 32 = .ok (.lsub, 1) := by decide +kernel
theorem d_R_hasNear_33 : decode md_R_hasNear.2.1 33 = .ok (.invokestatic 36, 3) := by decide +kernel
theorem d_R_hasNear_36 : decode md_R_hasNear.2.1 36 = .ok (.iload 5, 2) := by decide +kernel
theorem d_R_hasNear_38 : decode md_R_hasNear.2.1 38 = .ok (.i2l, 1) := by decide +kernel
theorem d_R_hasNear_39 : decode md_R_hasNear.2.1 39 = .ok (.lcmp, 1) := by decide +kernel
theorem d_R_hasNear_40 : decode md_R_hasNear.2.1 40 = .ok (.ifCond .ge 5, 3) := by decide +kernel
theorem d_R_hasNear_43 : decode md_R_hasNear.2.1 43 = .ok (.iconst 1, 1) := by decide +kernel
theorem d_R_hasNear_44 : decode md_R_hasNear.2.1 44 = .ok (.ireturn, 1) := by decide +kernel
theorem d_R_hasNear_45 : decode md_R_hasNear.2.1 45 = .ok (.iinc 6 1, 3) := by decide +kernel
theorem d_R_hasNear_48 : decode md_R_hasNear.2.1 48 = .ok (.goto (-45), 3) := by decide +kernel
theorem d_R_hasNear_51 : decode md_R_hasNear.2.1 51 = .ok (.iconst 0, 1) := by decide +kernel
theorem d_R_hasNear_52 : decode md_R_hasNear.2.1 52 = .ok (.ireturn, 1) := by decide +kernel
theorem d_K_causeOf_0 : decode md_K_causeOf.2.1 0 = .ok (.iconst 0, 1) := by decide +kernel
theorem d_K_causeOf_1 : decode md_K_causeOf.2.1 1 = .ok (.istore_n 3, 1) := by decide +kernel
theorem d_K_causeOf_2 : decode md_K_causeOf.2.1 2 = .ok (.iload_n 3, 1) := by decide +kernel
theorem d_K_causeOf_3 : decode md_K_causeOf.2.1 3 = .ok (.aload_n 0, 1) := by decide +kernel
theorem d_K_causeOf_4 : decode md_K_causeOf.2.1 4 = .ok (.getfield 10, 3) := by decide +kernel
theorem d_K_causeOf_7 : decode md_K_causeOf.2.1 7 = .ok (.invokevirtual 92, 3) := by decide +kernel
theorem d_K_causeOf_10 : decode md_K_causeOf.2.1 10 = .ok (.if_icmp .ge 29, 3) := by decide +kernel
theorem d_K_causeOf_13 : decode md_K_causeOf.2.1 13 = .ok (.aload_n 0, 1) := by decide +kernel
theorem d_K_causeOf_14 : decode md_K_causeOf.2.1 14 = .ok (.getfield 10, 3) := by decide +kernel
theorem d_K_causeOf_17 : decode md_K_causeOf.2.1 17 = .ok (.iload_n 3, 1) := by decide +kernel
theorem d_K_causeOf_18 : decode md_K_causeOf.2.1 18 = .ok (.invokevirtual 121, 3) := by decide +kernel
theorem d_K_causeOf_21 : decode md_K_causeOf.2.1 21 = .ok (.checkcast 103, 3) := by decide +kernel
theorem d_K_causeOf_24 : decode md_K_causeOf.2.1 24 = .ok (.lload_n 1, 1) := by decide +kernel
theorem d_K_causeOf_25 : decode md_K_causeOf.2.1 25 = .ok (.invokevirtual 130, 3) := by decide +kernel
theorem d_K_causeOf_28 : decode md_K_causeOf.2.1 28 = .ok (.ifCond .eq 5, 3) := by decide +kernel
theorem d_K_causeOf_31 : decode md_K_causeOf.2.1 31 = .ok (.iload_n 3, 1) := by decide +kernel
theorem d_K_causeOf_32 : decode md_K_causeOf.2.1 32 = .ok (.ireturn, 1) := by decide +kernel
theorem d_K_causeOf_33 : decode md_K_causeOf.2.1 33 = .ok (.iinc 3 1, 3) := by decide +kernel
theorem d_K_causeOf_36 : decode md_K_causeOf.2.1 36 = .ok (.goto (-34), 3) := by decide +kernel
theorem d_K_causeOf_39 : decode md_K_causeOf.2.1 39 = .ok (.iconst (-1), 1) := by decide +kernel
theorem d_K_causeOf_40 : decode md_K_causeOf.2.1 40 = .ok (.ireturn, 1) := by decide +kernel
theorem d_K_hasRoomFor_0 : decode md_K_hasRoomFor.2.1 0 = .ok (.aload_n 0, 1) := by decide +kernel
theorem d_K_hasRoomFor_1 : decode md_K_hasRoomFor.2.1 1 = .ok (.lload_n 1, 1) := by decide +kernel
theorem d_K_hasRoomFor_2 : decode md_K_hasRoomFor.2.1 2 = .ok (.invokevirtual 190, 3) := by decide +kernel
theorem d_K_hasRoomFor_5 : decode md_K_hasRoomFor.2.1 5 = .ok (.istore_n 3, 1) := by decide +kernel
theorem d_K_hasRoomFor_6 : decode md_K_hasRoomFor.2.1 6 = .ok (.iload_n 3, 1) := by decide +kernel
theorem d_K_hasRoomFor_7 : decode md_K_hasRoomFor.2.1 7 = .ok (.ifCond .ge 23, 3) := by decide +kernel
theorem d_K_hasRoomFor_10 : decode md_K_hasRoomFor.2.1 10 = .ok (.aload_n 0, 1) := by decide +kernel
theorem d_K_hasRoomFor_11 : decode md_K_hasRoomFor.2.1 11 = .ok (.getfield 16, 3) := by decide +kernel
theorem d_K_hasRoomFor_14 : decode md_K_hasRoomFor.2.1 14 = .ok (.invokevirtual 92, 3) := by decide +kernel
theorem d_K_hasRoomFor_17 : decode md_K_hasRoomFor.2.1 17 = .ok (.bipush 30, 2) := by decide +kernel
theorem d_K_hasRoomFor_19 : decode md_K_hasRoomFor.2.1 19 = .ok (.if_icmp .ge 7, 3) := by decide +kernel
theorem d_K_hasRoomFor_22 : decode md_K_hasRoomFor.2.1 22 = .ok (.iconst 1, 1) := by decide +kernel
theorem d_K_hasRoomFor_23 : decode md_K_hasRoomFor.2.1 23 = .ok (.goto 31, 3) := by decide +kernel
theorem d_K_hasRoomFor_26 : decode md_K_hasRoomFor.2.1 26 = .ok (.iconst 0, 1) := by decide +kernel
theorem d_K_hasRoomFor_27 : decode md_K_hasRoomFor.2.1 27 = .ok (.goto 27, 3) := by decide +kernel
theorem d_K_hasRoomFor_30 : decode md_K_hasRoomFor.2.1 30 = .ok (.aload_n 0, 1) := by decide +kernel
theorem d_K_hasRoomFor_31 : decode md_K_hasRoomFor.2.1 31 = .ok (.getfield 16, 3) := by decide +kernel
theorem d_K_hasRoomFor_34 : decode md_K_hasRoomFor.2.1 34 = .ok (.iload_n 3, 1) := by decide +kernel
theorem d_K_hasRoomFor_35 : decode md_K_hasRoomFor.2.1 35 = .ok (.invokevirtual 121, 3) := by decide +kernel
theorem d_K_hasRoomFor_38 : decode md_K_hasRoomFor.2.1 38 = .ok (.checkcast 196, 3) := by decide +kernel
theorem d_K_hasRoomFor_41 : decode md_K_hasRoomFor.2.1 41 = .ok (.getfield 204, 3) := by decide +kernel
theorem d_K_hasRoomFor_44 : decode md_K_hasRoomFor.2.1 44 = .ok (.bipush 60, 2) := by decide +kernel
theorem d_K_hasRoomFor_46 : decode md_K_hasRoomFor.2.1 46 = .ok (.if_icmp .ge 7, 3) := by decide +kernel
theorem d_K_hasRoomFor_49 : decode md_K_hasRoomFor.2.1 49 = .ok (.iconst 1, 1) := by decide +kernel
theorem d_K_hasRoomFor_50 : decode md_K_hasRoomFor.2.1 50 = .ok (.goto 4, 3) := by decide +kernel
theorem d_K_hasRoomFor_53 : decode md_K_hasRoomFor.2.1 53 = .ok (.iconst 0, 1) := by decide +kernel
theorem d_K_hasRoomFor_54 : decode md_K_hasRoomFor.2.1 54 = .ok (.ireturn, 1) := by decide +kernel
theorem d_K_take_0 : decode md_K_take.2.1 0 = .ok (.aload_n 0, 1) := by decide +kernel
theorem d_K_take_1 : decode md_K_take.2.1 1 = .ok (.lload_n 1, 1) := by decide +kernel
theorem d_K_take_2 : decode md_K_take.2.1 2 = .ok (.invokevirtual 190, 3) := by decide +kernel
theorem d_K_take_5 : decode md_K_take.2.1 5 = .ok (.istore 7, 2) := by decide +kernel
theorem d_K_take_7 : decode md_K_take.2.1 7 = .ok (.iload 7, 2) := by decide +kernel
theorem d_K_take_9 : decode md_K_take.2.1 9 = .ok (.ifCond .ge 36, 3) := by decide +kernel
theorem d_K_take_12 : decode md_K_take.2.1 12 = .ok (.aload_n 0, 1) := by decide +kernel
theorem d_K_take_13 : decode md_K_take.2.1 13 = .ok (.getfield 16, 3) := by decide +kernel
theorem d_K_take_16 : decode md_K_take.2.1 16 = .ok (.invokevirtual 92, 3) := by decide +kernel
theorem d_K_take_19 : decode md_K_take.2.1 19 = .ok (.istore 7, 2) := by decide +kernel
theorem d_K_take_21 : decode md_K_take.2.1 21 = .ok (.aload_n 0, 1) := by decide +kernel
theorem d_K_take_22 : decode md_K_take.2.1 22 = .ok (.getfield 16, 3) := by decide +kernel
theorem d_K_take_25 : decode md_K_take.2.1 25 = .ok (.new 196, 3) := by decide +kernel
theorem d_K_take_28 : decode md_K_take.2.1 28 = .ok (.dup, 1) := by decide +kernel
theorem d_K_take_29 : decode md_K_take.2.1 29 = .ok (.lload_n 1, 1) := by decide +kernel
theorem d_K_take_30 : decode md_K_take.2.1 30 = .ok (.aload_n 0, 1) := by decide +kernel
theorem d_K_take_31 : decode md_K_take.2.1 31 = .ok (.getfield 10, 3) := by decide +kernel
theorem d_K_take_34 : decode md_K_take.2.1 34 = .ok (.aload_n 0, 1) := by decide +kernel
theorem d_K_take_35 : decode md_K_take.2.1 35 = .ok (.invokevirtual 291, 3) := by decide +kernel
theorem d_K_take_38 : decode md_K_take.2.1 38 = .ok (.invokespecial 295, 3) := by decide +kernel
theorem d_K_take_41 : decode md_K_take.2.1 41 = .ok (.invokevirtual 108, 3) := by decide +kernel
theorem d_K_take_44 : decode md_K_take.2.1 44 = .ok (.pop, 1) := by decide +kernel
theorem d_K_take_45 : decode md_K_take.2.1 45 = .ok (.aload_n 0, 1) := by decide +kernel
theorem d_K_take_46 : decode md_K_take.2.1 46 = .ok (.getfield 16, 3) := by decide +kernel
theorem d_K_take_49 : decode md_K_take.2.1 49 = .ok (.iload 7, 2) := by decide +kernel
theorem d_K_take_51 : decode md_K_take.2.1 51 = .ok (.invokevirtual 121, 3) := by decide +kernel
theorem d_K_take_54 : decode md_K_take.2.1 54 = .ok (.checkcast 196, 3) := by decide +kernel
theorem d_K_take_57 : decode md_K_take.2.1 57 = .ok (.lload_n 3, 1) := by decide +kernel
theorem d_K_take_58 : decode md_K_take.2.1 58 = .ok (.lload 5, 2) := by decide +kernel
theorem d_K_take_60 : decode md_K_take.2.1 60 = .ok (.invokevirtual 298, 3) := by decide +kernel
theorem d_K_take_63 : decode md_K_take.2.1 63 = .ok (.aload_n 0, 1) := by decide +kernel
theorem d_K_take_64 : decode md_K_take.2.1 64 = .ok (.dup, 1) := by decide +kernel
theorem d_K_take_65 : decode md_K_take.2.1 65 = .ok (.getfield 54, 3) := by decide +kernel
theorem d_K_take_68 : decode md_K_take.2.1 68 = .ok (.iconst 1, 1) := by decide +kernel
theorem d_K_take_69 : decode md_K_take.2.1 69 = .ok (.iadd, 1) := by decide +kernel
theorem d_K_take_70 : decode md_K_take.2.1 70 = .ok (.putfield 54, 3) := by decide +kernel
theorem d_K_take_73 : decode md_K_take.2.1 73 = .ok (.aload_n 0, 1) := by decide +kernel
theorem d_K_take_74 : decode md_K_take.2.1 74 = .ok (.aload_n 0, 1) := by decide +kernel
theorem d_K_take_75 : decode md_K_take.2.1 75 = .ok (.getfield 47, 3) := by decide +kernel
theorem d_K_take_78 : decode md_K_take.2.1 78 = .ok (.lload_n 3, 1) := by decide +kernel
theorem d_K_take_79 : decode md_K_take.2.1 79 = .ok (.invokestatic 301, 3) := by decide +kernel
theorem d_K_take_82 : decode md_K_take.2.1 82 = .ok (.putfield 47, 3) := by decide +kernel
theorem d_K_take_85 : decode md_K_take.2.1 85 = .ok (.return_, 1) := by decide +kernel
theorem d_K_startStates_0 : decode md_K_startStates.2.1 0 = .ok (.aload_n 0, 1) := by decide +kernel
theorem d_K_startStates_1 : decode md_K_startStates.2.1 1 = .ok (.getfield 10, 3) := by decide +kernel
theorem d_K_startStates_4 : decode md_K_startStates.2.1 4 = .ok (.invokevirtual 92, 3) := by decide +kernel
theorem d_K_startStates_7 : decode md_K_startStates.2.1 7 = .ok (.newarray .long, 2) := by decide +kernel
theorem d_K_startStates_9 : decode md_K_startStates.2.1 9 = .ok (.astore_n 1, 1) := by decide +kernel
theorem d_K_startStates_10 : decode md_K_startStates.2.1 10 = .ok (.iconst 0, 1) := by decide +kernel
theorem d_K_startStates_11 : decode md_K_startStates.2.1 11 = .ok (.istore_n 2, 1) := by decide +kernel
theorem d_K_startStates_12 : decode md_K_startStates.2.1 12 = .ok (.iload_n 2, 1) := by decide +kernel
theorem d_K_startStates_13 : decode md_K_startStates.2.1 13 = .ok (.aload_n 1, 1) := by decide +kernel
theorem d_K_startStates_14 : decode md_K_startStates.2.1 14 = .ok (.arraylength, 1) := by decide +kernel
theorem d_K_startStates_15 : decode md_K_startStates.2.1 15 = .ok (.if_icmp .ge 26, 3) := by decide +kernel
theorem d_K_startStates_18 : decode md_K_startStates.2.1 18 = .ok (.aload_n 1, 1) := by decide +kernel
theorem d_K_startStates_19 : decode md_K_startStates.2.1 19 = .ok (.iload_n 2, 1) := by decide +kernel
theorem d_K_startStates_20 : decode md_K_startStates.2.1 20 = .ok (.aload_n 0, 1) := by decide +kernel
theorem d_K_startStates_21 : decode md_K_startStates.2.1 21 = .ok (.getfield 10, 3) := by decide +kernel
theorem d_K_startStates_24 : decode md_K_startStates.2.1 24 = .ok (.iload_n 2, 1) := by decide +kernel
theorem d_K_startStates_25 : decode md_K_startStates.2.1 25 = .ok (.invokevirtual 121, 3) := by decide +kernel
theorem d_K_startStates_28 : decode md_K_startStates.2.1 28 = .ok (.checkcast 103, 3) := by decide +kernel
theorem d_K_startStates_31 : decode md_K_startStates.2.1 31 = .ok (.getfield 304, 3) := by decide +kernel
theorem d_K_startStates_34 : decode md_K_startStates.2.1 34 = .ok (.lastore, 1) := by decide +kernel
theorem d_K_startStates_35 : decode md_K_startStates.2.1 35 = .ok (.iinc 2 1, 3) := by decide +kernel
theorem d_K_startStates_38 : decode md_K_startStates.2.1 38 = .ok (.goto (-26), 3) := by decide +kernel
theorem d_K_startStates_41 : decode md_K_startStates.2.1 41 = .ok (.aload_n 1, 1) := by decide +kernel
theorem d_K_startStates_42 : decode md_K_startStates.2.1 42 = .ok (.areturn, 1) := by decide +kernel
theorem d_R_init_0 : decode md_R_init.2.1 0 = .ok (.aload_n 0, 1) := by decide +kernel
theorem d_R_init_1 : decode md_R_init.2.1 1 = .ok (.invokespecial 3, 3) := by decide +kernel
theorem d_R_init_4 : decode md_R_init.2.1 4 = .ok (.aload_n 0, 1) := by decide +kernel
theorem d_R_init_5 : decode md_R_init.2.1 5 = .ok (.bipush 60, 2) := by decide +kernel
theorem d_R_init_7 : decode md_R_init.2.1 7 = .ok (.newarray .long, 2) := by decide +kernel
theorem d_R_init_9 : decode md_R_init.2.1 9 = .ok (.putfield 9, 3) := by decide +kernel
theorem d_R_init_12 : decode md_R_init.2.1 12 = .ok (.aload_n 0, 1) := by decide +kernel
theorem d_R_init_13 : decode md_R_init.2.1 13 = .ok (.bipush 60, 2) := by decide +kernel
theorem d_R_init_15 : decode md_R_init.2.1 15 = .ok (.newarray .long, 2) := by decide +kernel
theorem d_R_init_17 : decode md_R_init.2.1 17 = .ok (.putfield 15, 3) := by decide +kernel
theorem d_R_init_20 : decode md_R_init.2.1 20 = .ok (.aload_n 0, 1) := by decide +kernel
theorem d_R_init_21 : decode md_R_init.2.1 21 = .ok (.iconst 0, 1) := by decide +kernel
theorem d_R_init_22 : decode md_R_init.2.1 22 = .ok (.putfield 18, 3) := by decide +kernel
theorem d_R_init_25 : decode md_R_init.2.1 25 = .ok (.aload_n 0, 1) := by decide +kernel
theorem d_R_init_26 : decode md_R_init.2.1 26 = .ok (.iconst 0, 1) := by decide +kernel
theorem d_R_init_27 : decode md_R_init.2.1 27 = .ok (.putfield 22, 3) := by decide +kernel
theorem d_R_init_30 : decode md_R_init.2.1 30 = .ok (.aload_n 0, 1) := by decide +kernel
theorem d_R_init_31 : decode md_R_init.2.1 31 = .ok (.lload_n 1, 1) := by decide +kernel
theorem d_R_init_32 : decode md_R_init.2.1 32 = .ok (.putfield 25, 3) := by decide +kernel
theorem d_R_init_35 : decode md_R_init.2.1 35 = .ok (.aload_n 0, 1) := by decide +kernel
theorem d_R_init_36 : decode md_R_init.2.1 36 = .ok (.aload_n 3, 1) := by decide +kernel
theorem d_R_init_37 : decode md_R_init.2.1 37 = .ok (.putfield 29, 3) := by decide +kernel
theorem d_R_init_40 : decode md_R_init.2.1 40 = .ok (.aload_n 0, 1) := by decide +kernel
theorem d_R_init_41 : decode md_R_init.2.1 41 = .ok (.aload 4, 2) := by decide +kernel
theorem d_R_init_43 : decode md_R_init.2.1 43 = .ok (.putfield 33, 3) := by decide +kernel
theorem d_R_init_46 : decode md_R_init.2.1 46 = .ok (.return_, 1) := by decide +kernel
theorem d_R_take_0 : decode md_R_take.2.1 0 = .ok (.aload_n 0, 1) := by decide +kernel
theorem d_R_take_1 : decode md_R_take.2.1 1 = .ok (.getfield 18, 3) := by decide +kernel
theorem d_R_take_4 : decode md_R_take.2.1 4 = .ok (.bipush 60, 2) := by decide +kernel
theorem d_R_take_6 : decode md_R_take.2.1 6 = .ok (.if_icmp .lt 4, 3) := by decide +kernel
theorem d_R_take_9 : decode md_R_take.2.1 9 = .ok (.return_, 1) := by decide +kernel
theorem d_R_take_10 : decode md_R_take.2.1 10 = .ok (.aload_n 0, 1) := by decide +kernel
theorem d_R_take_11 : decode md_R_take.2.1 11 = .ok (.lload_n 1, 1) := by decide +kernel
theorem d_R_take_12 : decode md_R_take.2.1 12 = .ok (.lconst 1, 1) := by decide +kernel
theorem d_R_take_13 : decode md_R_take.2.1 13 = .ok (.ladd, 1) := by decide +kernel
theorem d_R_take_14 : decode md_R_take.2.1 14 = .ok (.invokevirtual 42, 3) := by decide +kernel
theorem d_R_take_17 : decode md_R_take.2.1 17 = .ok (.istore 5, 2) := by decide +kernel
theorem d_R_take_19 : decode md_R_take.2.1 19 = .ok (.aload_n 0, 1) := by decide +kernel
theorem d_R_take_20 : decode md_R_take.2.1 20 = .ok (.iload 5, 2) := by decide +kernel
theorem d_R_take_22 : decode md_R_take.2.1 22 = .ok (.lload_n 1, 1) := by decide +kernel
theorem d_R_take_23 : decode md_R_take.2.1 23 = .ok (.lload_n 3, 1) := by decide +kernel
theorem d_R_take_24 : decode md_R_take.2.1 24 = .ok (.invokevirtual 46, 3) := by decide +kernel
theorem d_R_take_27 : decode md_R_take.2.1 27 = .ok (.iload 5, 2) := by decide +kernel
theorem d_R_take_29 : decode md_R_take.2.1 29 = .ok (.aload_n 0, 1) := by decide +kernel
theorem d_R_take_30 : decode md_R_take.2.1 30 = .ok (.getfield 18, 3) := by decide +kernel
theorem d_R_take_33 : decode md_R_take.2.1 33 = .ok (.iconst 1, 1) := by decide +kernel
theorem d_R_take_34 : decode md_R_take.2.1 34 = .ok (.isub, 1) := by decide +kernel
theorem d_R_take_35 : decode md_R_take.2.1 35 = .ok (.if_icmp .ne 7, 3) := by decide +kernel
theorem d_R_take_38 : decode md_R_take.2.1 38 = .ok (.iconst 1, 1) := by decide +kernel
theorem d_R_take_39 : decode md_R_take.2.1 39 = .ok (.goto 4, 3) := by decide +kernel
theorem d_R_take_42 : decode md_R_take.2.1 42 = .ok (.iconst 0, 1) := by decide +kernel
theorem d_R_take_43 : decode md_R_take.2.1 43 = .ok (.istore 6, 2) := by decide +kernel
theorem d_R_take_45 : decode md_R_take.2.1 45 = .ok (.iconst 0, 1) := by decide +kernel
theorem d_R_take_46 : decode md_R_take.2.1 46 = .ok (.istore 7, 2) := by decide +kernel
theorem d_R_take_48 : decode md_R_take.2.1 48 = .ok (.iload 7, 2) := by decide +kernel
theorem d_R_take_50 : decode md_R_take.2.1 50 = .ok (.aload_n 0, 1) := by decide +kernel
theorem d_R_take_51 : decode md_R_take.2.1 51 = .ok (.getfield 29, 3) := by decide +kernel
theorem d_R_take_54 : decode md_R_take.2.1 54 = .ok (.invokevirtual 50, 3) := by decide +kernel
theorem d_R_take_57 : decode md_R_take.2.1 57 = .ok (.if_icmp .ge 101, 3) := by decide +kernel
theorem d_R_take_60 : decode md_R_take.2.1 60 = .ok (.aload_n 0, 1) := by decide +kernel
theorem d_R_take_61 : decode md_R_take.2.1 61 = .ok (.getfield 29, 3) := by decide +kernel
theorem d_R_take_64 : decode md_R_take.2.1 64 = .ok (.iload 7, 2) := by decide +kernel
theorem d_R_take_66 : decode md_R_take.2.1 66 = .ok (.invokevirtual 56, 3) := by decide +kernel
theorem d_R_take_69 : decode md_R_take.2.1 69 = .ok (.checkcast 60, 3) := by decide +kernel
theorem d_R_take_72 : decode md_R_take.2.1 72 = .ok (.astore 8, 2) := by decide +kernel
theorem d_R_take_74 : decode md_R_take.2.1 74 = .ok (.iload 6, 2) := by decide +kernel
theorem d_R_take_76 : decode md_R_take.2.1 76 = .ok (.ifCond .ne 11, 3) := by decide +kernel
theorem d_R_take_79 : decode md_R_take.2.1 79 = .ok (.aload 8, 2) := by decide +kernel
theorem d_R_take_81 : decode md_R_take.2.1 81 = .ok (.invokevirtual 62, 3) := by decide +kernel
theorem d_R_take_84 : decode md_R_take.2.1 84 = .ok (.ifCond .eq 38, 3) := by decide +kernel
theorem d_R_take_87 : decode md_R_take.2.1 87 = .ok (.aload_n 0, 1) := by decide +kernel
theorem d_R_take_88 : decode md_R_take.2.1 88 = .ok (.getfield 33, 3) := by decide +kernel
theorem d_R_take_91 : decode md_R_take.2.1 91 = .ok (.iload 7, 2) := by decide +kernel
theorem d_R_take_93 : decode md_R_take.2.1 93 = .ok (.aload_n 0, 1) := by decide +kernel
theorem d_R_take_94 : decode md_R_take.2.1 94 = .ok (.iload 5, 2) := by decide +kernel
theorem d_R_take_96 : decode md_R_take.2.1 96 = .ok (.aload 8, 2) := by decide +kernel
theorem d_R_take_98 : decode md_R_take.2.1 98 = .ok (.aload_n 0, 1) := by decide +kernel
theorem d_R_take_99 : decode md_R_take.2.1 99 = .ok (.getfield 33, 3) := by decide +kernel
theorem d_R_take_102 : decode md_R_take.2.1 102 = .ok (.iload 7, 2) := by decide +kernel
theorem d_R_take_104 : decode md_R_take.2.1 104 = .ok (.laload, 1) := by decide +kernel
theorem d_R_take_105 : decode md_R_take.2.1 105 = .ok (.invokevirtual 66, 3) := by decide +kernel
theorem d_R_take_108 : decode md_R_take.2.1 108 = .ok (.lastore, 1) := by decide +kernel
theorem d_R_take_109 : decode md_R_take.2.1 109 = .ok (.aload_n 0, 1) := by decide +kernel
theorem d_R_take_110 : decode md_R_take.2.1 110 = .ok (.dup, 1) := by decide +kernel
theorem d_R_take_111 : decode md_R_take.2.1 111 = .ok (.getfield 22, 3) := by decide +kernel
theorem d_R_take_114 : decode md_R_take.2.1 114 = .ok (.iconst 1, 1) := by decide +kernel
theorem d_R_take_115 : decode md_R_take.2.1 115 = .ok (.iadd, 1) := by decide +kernel
theorem d_R_take_116 : decode md_R_take.2.1 116 = .ok (.putfield 22, 3) := by decide +kernel
theorem d_R_take_119 : decode md_R_take.2.1 119 = .ok (.goto 33, 3) := by decide +kernel
theorem d_R_take_122 : decode md_R_take.2.1 122 = .ok (.aload_n 0, 1) := by decide +kernel
theorem d_R_take_123 : decode md_R_take.2.1 123 = .ok (.getfield 33, 3) := by decide +kernel
theorem d_R_take_126 : decode md_R_take.2.1 126 = .ok (.iload 7, 2) := by decide +kernel
theorem d_R_take_128 : decode md_R_take.2.1 128 = .ok (.aload_n 0, 1) := by decide +kernel
theorem d_R_take_129 : decode md_R_take.2.1 129 = .ok (.aload_n 0, 1) := by decide +kernel
theorem d_R_take_130 : decode md_R_take.2.1 130 = .ok (.getfield 18, 3) := by decide +kernel
theorem d_R_take_133 : decode md_R_take.2.1 133 = .ok (.aload 8, 2) := by decide +kernel
theorem d_R_take_135 : decode md_R_take.2.1 135 = .ok (.invokevirtual 70, 3) := by decide +kernel
theorem d_R_take_138 : decode md_R_take.2.1 138 = .ok (.lastore, 1) := by decide +kernel
theorem d_R_take_139 : decode md_R_take.2.1 139 = .ok (.aload_n 0, 1) := by decide +kernel
theorem d_R_take_140 : decode md_R_take.2.1 140 = .ok (.dup, 1) := by decide +kernel
theorem d_R_take_141 : decode md_R_take.2.1 141 = .ok (.getfield 22, 3) := by decide +kernel
theorem d_R_take_144 : decode md_R_take.2.1 144 = .ok (.aload_n 0, 1) := by decide +kernel
theorem d_R_take_145 : decode md_R_take.2.1 145 = .ok (.getfield 18, 3) := by decide +kernel
theorem d_R_take_148 : decode md_R_take.2.1 148 = .ok (.iadd, 1) := by decide +kernel
theorem d_R_take_149 : decode md_R_take.2.1 149 = .ok (.putfield 22, 3) := by decide +kernel
theorem d_R_take_152 : decode md_R_take.2.1 152 = .ok (.iinc 7 1, 3) := by decide +kernel
theorem d_R_take_155 : decode md_R_take.2.1 155 = .ok (.goto (-107), 3) := by decide +kernel
theorem d_R_take_158 : decode md_R_take.2.1 158 = .ok (.return_, 1) := by decide +kernel
theorem d_R_countBelow_0 : decode md_R_countBelow.2.1 0 = .ok (.iconst 0, 1) := by decide +kernel
theorem d_R_countBelow_1 : decode md_R_countBelow.2.1 1 = .ok (.istore_n 3, 1) := by decide +kernel
theorem d_R_countBelow_2 : decode md_R_countBelow.2.1 2 = .ok (.iload_n 3, 1) := by decide +kernel
theorem d_R_countBelow_3 : decode md_R_countBelow.2.1 3 = .ok (.aload_n 0, 1) := by decide +kernel
theorem d_R_countBelow_4 : decode md_R_countBelow.2.1 4 = .ok (.getfield 18, 3) := by decide +kernel
theorem d_R_countBelow_7 : decode md_R_countBelow.2.1 7 = .ok (.if_icmp .ge 20, 3) := by decide +kernel
theorem d_R_countBelow_10 : decode md_R_countBelow.2.1 10 = .ok (.aload_n 0, 1) := by decide +kernel
theorem d_R_countBelow_11 : decode md_R_countBelow.2.1 11 = .ok (.getfield 9, 3) := by decide +kernel
theorem d_R_countBelow_14 : decode md_R_countBelow.2.1 14 = .ok (.iload_n 3, 1) := by decide +kernel
theorem d_R_countBelow_15 : decode md_R_countBelow.2.1 15 = .ok (.laload, 1) := by decide +kernel
theorem d_R_countBelow_16 : decode md_R_countBelow.2.1 16 = .ok (.lload_n 1, 1) := by decide +kernel
theorem d_R_countBelow_17 : decode md_R_countBelow.2.1 17 = .ok (.lcmp, 1) := by decide +kernel
theorem d_R_countBelow_18 : decode md_R_countBelow.2.1 18 = .ok (.ifCond .ge 9, 3) := by decide +kernel
theorem d_R_countBelow_21 : decode md_R_countBelow.2.1 21 = .ok (.iinc 3 1, 3) := by decide +kernel
theorem d_R_countBelow_24 : decode md_R_countBelow.2.1 24 = .ok (.goto (-22), 3) := by decide +kernel
theorem d_R_countBelow_27 : decode md_R_countBelow.2.1 27 = .ok (.iload_n 3, 1) := by decide +kernel
theorem d_R_countBelow_28 : decode md_R_countBelow.2.1 28 = .ok (.ireturn, 1) := by decide +kernel
theorem d_R_insert_0 : decode md_R_insert.2.1 0 = .ok (.aload_n 0, 1) := by decide +kernel
theorem d_R_insert_1 : decode md_R_insert.2.1 1 = .ok (.getfield 18, 3) := by decide +kernel
theorem d_R_insert_4 : decode md_R_insert.2.1 4 = .ok (.istore 6, 2) := by decide +kernel
theorem d_R_insert_6 : decode md_R_insert.2.1 6 = .ok (.iload 6, 2) := by decide +kernel
theorem d_R_insert_8 : decode md_R_insert.2.1 8 = .ok (.iload_n 1, 1) := by decide +kernel
theorem d_R_insert_9 : decode md_R_insert.2.1 9 = .ok (.if_icmp .le 41, 3) := by decide +kernel
theorem d_R_insert_12 : decode md_R_insert.2.1 12 = .ok (.aload_n 0, 1) := by decide +kernel
theorem d_R_insert_13 : decode md_R_insert.2.1 13 = .ok (.getfield 9, 3) := by decide +kernel
theorem d_R_insert_16 : decode md_R_insert.2.1 16 = .ok (.iload 6, 2) := by decide +kernel
theorem d_R_insert_18 : decode md_R_insert.2.1 18 = .ok (.aload_n 0, 1) := by decide +kernel
theorem d_R_insert_19 : decode md_R_insert.2.1 19 = .ok (.getfield 9, 3) := by decide +kernel
theorem d_R_insert_22 : decode md_R_insert.2.1 22 = .ok (.iload 6, 2) := by decide +kernel
theorem d_R_insert_24 : decode md_R_insert.2.1 24 = .ok (.iconst 1, 1) := by decide +kernel
theorem d_R_insert_25 : decode md_R_insert.2.1 25 = .ok (.isub, 1) := by decide +kernel
theorem d_R_insert_26 : decode md_R_insert.2.1 26 = .ok (.laload, 1) := by decide +kernel
theorem d_R_insert_27 : decode md_R_insert.2.1 27 = .ok (.lastore, 1) := by decide +kernel
theorem d_R_insert_28 : decode md_R_insert.2.1 28 = .ok (.aload_n 0, 1) := by decide +kernel
theorem d_R_insert_29 : decode md_R_insert.2.1 29 = .ok (.getfield 15, 3) := by decide +kernel
theorem d_R_insert_32 : decode md_R_insert.2.1 32 = .ok (.iload 6, 2) := by decide +kernel
theorem d_R_insert_34 : decode md_R_insert.2.1 34 = .ok (.aload_n 0, 1) := by decide +kernel
end
section
theorem d_R_insert_35 : decode md_R_insert.2.1 35 = .ok (.getfield 15, 3) := by decide +kernel
theorem d_R_insert_38 : decode md_R_insert.2.1 38 = .ok (.iload 6, 2) := by decide +kernel
theorem d_R_insert_40 : decode md_R_insert.2.1 40 = .ok (.iconst 1, 1) := by decide +kernel
theorem d_R_insert_41 : decode md_R_insert.2.1 41 = .ok (.isub, 1) := by decide +kernel
theorem d_R_insert_42 : decode md_R_insert.2.1 42 = .ok (.laload, 1) := by decide +kernel
theorem d_R_insert_43 : decode md_R_insert.2.1 43 = .ok (.lastore, 1) := by decide +kernel
theorem d_R_insert_44 : decode md_R_insert.2.1 44 = .ok (.iinc 6 (-1), 3) := by decide +kernel
theorem d_R_insert_47 : decode md_R_insert.2.1 47 = .ok (.goto (-41), 3) := by decide +kernel
theorem d_R_insert_50 : decode md_R_insert.2.1 50 = .ok (.aload_n 0, 1) := by decide +kernel
theorem d_R_insert_51 : decode md_R_insert.2.1 51 = .ok (.getfield 9, 3) := by decide +kernel
theorem d_R_insert_54 : decode md_R_insert.2.1 54 = .ok (.iload_n 1, 1) := by decide +kernel
theorem d_R_insert_55 : decode md_R_insert.2.1 55 = .ok (.lload_n 2, 1) := by decide +kernel
theorem d_R_insert_56 : decode md_R_insert.2.1 56 = .ok (.lastore, 1) := by decide +kernel
theorem d_R_insert_57 : decode md_R_insert.2.1 57 = .ok (.aload_n 0, 1) := by decide +kernel
theorem d_R_insert_58 : decode md_R_insert.2.1 58 = .ok (.getfield 15, 3) := by decide +kernel
theorem d_R_insert_61 : decode md_R_insert.2.1 61 = .ok (.iload_n 1, 1) := by decide +kernel
theorem d_R_insert_62 : decode md_R_insert.2.1 62 = .ok (.lload 4, 2) := by decide +kernel
theorem d_R_insert_64 : decode md_R_insert.2.1 64 = .ok (.lastore, 1) := by decide +kernel
theorem d_R_insert_65 : decode md_R_insert.2.1 65 = .ok (.aload_n 0, 1) := by decide +kernel
theorem d_R_insert_66 : decode md_R_insert.2.1 66 = .ok (.dup, 1) := by decide +kernel
theorem d_R_insert_67 : decode md_R_insert.2.1 67 = .ok (.getfield 18, 3) := by decide +kernel
theorem d_R_insert_70 : decode md_R_insert.2.1 70 = .ok (.iconst 1, 1) := by decide +kernel
theorem d_R_insert_71 : decode md_R_insert.2.1 71 = .ok (.iadd, 1) := by decide +kernel
theorem d_R_insert_72 : decode md_R_insert.2.1 72 = .ok (.putfield 18, 3) := by decide +kernel
theorem d_R_insert_75 : decode md_R_insert.2.1 75 = .ok (.return_, 1) := by decide +kernel
theorem d_F_mayBeJoined_0 : decode md_F_mayBeJoined.2.1 0 = .ok (.aload_n 0, 1) := by decide +kernel
theorem d_F_mayBeJoined_1 : decode md_F_mayBeJoined.2.1 1 = .ok (.getfield 19, 3) := by decide +kernel
theorem d_F_mayBeJoined_4 : decode md_F_mayBeJoined.2.1 4 = .ok (.iconst 1, 1) := by decide +kernel
theorem d_F_mayBeJoined_5 : decode md_F_mayBeJoined.2.1 5 = .ok (.if_icmp .eq 18, 3) := by decide +kernel
theorem d_F_mayBeJoined_8 : decode md_F_mayBeJoined.2.1 8 = .ok (.aload_n 0, 1) := by decide +kernel
theorem d_F_mayBeJoined_9 : decode md_F_mayBeJoined.2.1 9 = .ok (.getfield 19, 3) := by decide +kernel
theorem d_F_mayBeJoined_12 : decode md_F_mayBeJoined.2.1 12 = .ok (.iconst 2, 1) := by decide +kernel
theorem d_F_mayBeJoined_13 : decode md_F_mayBeJoined.2.1 13 = .ok (.if_icmp .eq 10, 3) := by decide +kernel
theorem d_F_mayBeJoined_16 : decode md_F_mayBeJoined.2.1 16 = .ok (.aload_n 0, 1) := by decide +kernel
theorem d_F_mayBeJoined_17 : decode md_F_mayBeJoined.2.1 17 = .ok (.invokevirtual 29, 3) := by decide +kernel
theorem d_F_mayBeJoined_20 : decode md_F_mayBeJoined.2.1 20 = .ok (.ifCond .eq 7, 3) := by decide +kernel
theorem d_F_mayBeJoined_23 : decode md_F_mayBeJoined.2.1 23 = .ok (.iconst 1, 1) := by decide +kernel
theorem d_F_mayBeJoined_24 : decode md_F_mayBeJoined.2.1 24 = .ok (.goto 4, 3) := by decide +kernel
theorem d_F_mayBeJoined_27 : decode md_F_mayBeJoined.2.1 27 = .ok (.iconst 0, 1) := by decide +kernel
theorem d_F_mayBeJoined_28 : decode md_F_mayBeJoined.2.1 28 = .ok (.ireturn, 1) := by decide +kernel
theorem d_F_canBeTakenBack_0 : decode md_F_canBeTakenBack.2.1 0 = .ok (.aload_n 0, 1) := by decide +kernel
theorem d_F_canBeTakenBack_1 : decode md_F_canBeTakenBack.2.1 1 = .ok (.getfield 19, 3) := by decide +kernel
theorem d_F_canBeTakenBack_4 : decode md_F_canBeTakenBack.2.1 4 = .ok (.ifCond .eq 21, 3) := by decide +kernel
theorem d_F_canBeTakenBack_7 : decode md_F_canBeTakenBack.2.1 7 = .ok (.aload_n 0, 1) := by decide +kernel
theorem d_F_canBeTakenBack_8 : decode md_F_canBeTakenBack.2.1 8 = .ok (.getfield 19, 3) := by decide +kernel
theorem d_F_canBeTakenBack_11 : decode md_F_canBeTakenBack.2.1 11 = .ok (.bipush 6, 2) := by decide +kernel
theorem d_F_canBeTakenBack_13 : decode md_F_canBeTakenBack.2.1 13 = .ok (.if_icmp .eq 12, 3) := by decide +kernel
theorem d_F_canBeTakenBack_16 : decode md_F_canBeTakenBack.2.1 16 = .ok (.aload_n 0, 1) := by decide +kernel
theorem d_F_canBeTakenBack_17 : decode md_F_canBeTakenBack.2.1 17 = .ok (.getfield 19, 3) := by decide +kernel
theorem d_F_canBeTakenBack_20 : decode md_F_canBeTakenBack.2.1 20 = .ok (.bipush 7, 2) := by decide +kernel
theorem d_F_canBeTakenBack_22 : decode md_F_canBeTakenBack.2.1 22 = .ok (.if_icmp .ne 7, 3) := by decide +kernel
theorem d_F_canBeTakenBack_25 : decode md_F_canBeTakenBack.2.1 25 = .ok (.iconst 1, 1) := by decide +kernel
theorem d_F_canBeTakenBack_26 : decode md_F_canBeTakenBack.2.1 26 = .ok (.goto 4, 3) := by decide +kernel
theorem d_F_canBeTakenBack_29 : decode md_F_canBeTakenBack.2.1 29 = .ok (.iconst 0, 1) := by decide +kernel
theorem d_F_canBeTakenBack_30 : decode md_F_canBeTakenBack.2.1 30 = .ok (.ireturn, 1) := by decide +kernel
theorem d_R_stepAt_0 : decode md_R_stepAt.2.1 0 = .ok (.iload_n 1, 1) := by decide +kernel
theorem d_R_stepAt_1 : decode md_R_stepAt.2.1 1 = .ok (.ifCond .ne 7, 3) := by decide +kernel
theorem d_R_stepAt_4 : decode md_R_stepAt.2.1 4 = .ok (.lconst 0, 1) := by decide +kernel
theorem d_R_stepAt_5 : decode md_R_stepAt.2.1 5 = .ok (.goto 18, 3) := by decide +kernel
theorem d_R_stepAt_8 : decode md_R_stepAt.2.1 8 = .ok (.aload_n 0, 1) := by decide +kernel
theorem d_R_stepAt_9 : decode md_R_stepAt.2.1 9 = .ok (.getfield 9, 3) := by decide +kernel
theorem d_R_stepAt_12 : decode md_R_stepAt.2.1 12 = .ok (.iload_n 1, 1) := by decide +kernel
theorem d_R_stepAt_13 : decode md_R_stepAt.2.1 13 = .ok (.laload, 1) := by decide +kernel
theorem d_R_stepAt_14 : decode md_R_stepAt.2.1 14 = .ok (.aload_n 0, 1) := by decide +kernel
theorem d_R_stepAt_15 : decode md_R_stepAt.2.1 15 = .ok (.getfield 9, 3) := by decide +kernel
theorem d_R_stepAt_18 : decode md_R_stepAt.2.1 18 = .ok (.iload_n 1, 1) := by decide +kernel
theorem d_R_stepAt_19 : decode md_R_stepAt.2.1 19 = .ok (.iconst 1, 1) := by decide +kernel
theorem d_R_stepAt_20 : decode md_R_stepAt.2.1 20 = .ok (.isub, 1) := by decide +kernel
theorem d_R_stepAt_21 : decode md_R_stepAt.2.1 21 = .ok (.laload, 1) := by decide +kernel
theorem d_R_stepAt_22 : decode md_R_stepAt.2.1 22 = .ok (.lsub, 1) := by decide +kernel
theorem d_R_stepAt_23 : decode md_R_stepAt.2.1 23 = .ok (.lstore 5, 2) := by decide +kernel
theorem d_R_stepAt_25 : decode md_R_stepAt.2.1 25 = .ok (.aload_n 2, 1) := by decide +kernel
theorem d_R_stepAt_26 : decode md_R_stepAt.2.1 26 = .ok (.lload_n 3, 1) := by decide +kernel
theorem d_R_stepAt_27 : decode md_R_stepAt.2.1 27 = .ok (.aload_n 0, 1) := by decide +kernel
theorem d_R_stepAt_28 : decode md_R_stepAt.2.1 28 = .ok (.getfield 15, 3) := by decide +kernel
theorem d_R_stepAt_31 : decode md_R_stepAt.2.1 31 = .ok (.iload_n 1, 1) := by decide +kernel
theorem d_R_stepAt_32 : decode md_R_stepAt.2.1 32 = .ok (.laload, 1) := by decide +kernel
theorem d_R_stepAt_33 : decode md_R_stepAt.2.1 33 = .ok (.lload 5, 2) := by decide +kernel
theorem d_R_stepAt_35 : decode md_R_stepAt.2.1 35 = .ok (.iload_n 1, 1) := by decide +kernel
theorem d_R_stepAt_36 : decode md_R_stepAt.2.1 36 = .ok (.ifCond .ne 7, 3) := by decide +kernel
theorem d_R_stepAt_39 : decode md_R_stepAt.2.1 39 = .ok (.iconst 1, 1) := by decide +kernel
theorem d_R_stepAt_40 : decode md_R_stepAt.2.1 40 = .ok (.goto 4, 3) := by decide +kernel
theorem d_R_stepAt_43 : decode md_R_stepAt.2.1 43 = .ok (.iconst 0, 1) := by decide +kernel
theorem d_R_stepAt_44 : decode md_R_stepAt.2.1 44 = .ok (.invokevirtual 87, 3) := by decide +kernel
theorem d_R_stepAt_47 : decode md_R_stepAt.2.1 47 = .ok (.lreturn, 1) := by decide +kernel
theorem d_F_step_0 : decode md_F_step.2.1 0 = .ok (.aload_n 0, 1) := by decide +kernel
theorem d_F_step_1 : decode md_F_step.2.1 1 = .ok (.getfield 19, 3) := by decide +kernel
theorem d_F_step_4 : decode md_F_step.2.1 4 = .ok (.tableswitch 111 0 7 #[48, 52, 64, 76, 78, 89, 98, 102], 48) := by decide +kernel
theorem d_F_step_52 : decode md_F_step.2.1 52 = .ok (.lload_n 1, 1) := by decide +kernel
theorem d_F_step_53 : decode md_F_step.2.1 53 = .ok (.lload_n 3, 1) := by decide +kernel
theorem d_F_step_54 : decode md_F_step.2.1 54 = .ok (.ladd, 1) := by decide +kernel
theorem d_F_step_55 : decode md_F_step.2.1 55 = .ok (.lreturn, 1) := by decide +kernel
theorem d_F_step_56 : decode md_F_step.2.1 56 = .ok (.lload_n 1, 1) := by decide +kernel
theorem d_F_step_57 : decode md_F_step.2.1 57 = .ok (.lload_n 3, 1) := by decide +kernel
theorem d_F_step_58 : decode md_F_step.2.1 58 = .ok (.lcmp, 1) := by decide +kernel
theorem d_F_step_59 : decode md_F_step.2.1 59 = .ok (.ifCond .lt 7, 3) := by decide +kernel
theorem d_F_step_62 : decode md_F_step.2.1 62 = .ok (.lload_n 1, 1) := by decide +kernel
theorem d_F_step_63 : decode md_F_step.2.1 63 = .ok (.goto 4, 3) := by decide +kernel
theorem d_F_step_66 : decode md_F_step.2.1 66 = .ok (.lload_n 3, 1) := by decide +kernel
theorem d_F_step_67 : decode md_F_step.2.1 67 = .ok (.lreturn, 1) := by decide +kernel
theorem d_F_step_68 : decode md_F_step.2.1 68 = .ok (.lload_n 1, 1) := by decide +kernel
theorem d_F_step_69 : decode md_F_step.2.1 69 = .ok (.lload_n 3, 1) := by decide +kernel
theorem d_F_step_70 : decode md_F_step.2.1 70 = .ok (.lcmp, 1) := by decide +kernel
theorem d_F_step_71 : decode md_F_step.2.1 71 = .ok (.ifCond .gt 7, 3) := by decide +kernel
theorem d_F_step_74 : decode md_F_step.2.1 74 = .ok (.lload_n 1, 1) := by decide +kernel
theorem d_F_step_75 : decode md_F_step.2.1 75 = .ok (.goto 4, 3) := by decide +kernel
theorem d_F_step_78 : decode md_F_step.2.1 78 = .ok (.lload_n 3, 1) := by decide +kernel
theorem d_F_step_79 : decode md_F_step.2.1 79 = .ok (.lreturn, 1) := by decide +kernel
theorem d_F_step_80 : decode md_F_step.2.1 80 = .ok (.lload_n 3, 1) := by decide +kernel
theorem d_F_step_81 : decode md_F_step.2.1 81 = .ok (.lreturn, 1) := by decide +kernel
theorem d_F_step_82 : decode md_F_step.2.1 82 = .ok (.iload 7, 2) := by decide +kernel
theorem d_F_step_84 : decode md_F_step.2.1 84 = .ok (.ifCond .eq 7, 3) := by decide +kernel
theorem d_F_step_87 : decode md_F_step.2.1 87 = .ok (.lload_n 3, 1) := by decide +kernel
theorem d_F_step_88 : decode md_F_step.2.1 88 = .ok (.goto 4, 3) := by decide +kernel
theorem d_F_step_91 : decode md_F_step.2.1 91 = .ok (.lload_n 1, 1) := by decide +kernel
theorem d_F_step_92 : decode md_F_step.2.1 92 = .ok (.lreturn, 1) := by decide +kernel
theorem d_F_step_93 : decode md_F_step.2.1 93 = .ok (.lload_n 1, 1) := by decide +kernel
theorem d_F_step_94 : decode md_F_step.2.1 94 = .ok (.aload_n 0, 1) := by decide +kernel
theorem d_F_step_95 : decode md_F_step.2.1 95 = .ok (.getfield 26, 3) := by decide +kernel
theorem d_F_step_98 : decode md_F_step.2.1 98 = .ok (.lmul, 1) := by decide +kernel
theorem d_F_step_99 : decode md_F_step.2.1 99 = .ok (.lload_n 3, 1) := by decide +kernel
theorem d_F_step_100 : decode md_F_step.2.1 100 = .ok (.ladd, 1) := by decide +kernel
theorem d_F_step_101 : decode md_F_step.2.1 101 = .ok (.lreturn, 1) := by decide +kernel
theorem d_F_step_102 : decode md_F_step.2.1 102 = .ok (.lload_n 1, 1) := by decide +kernel
theorem d_F_step_103 : decode md_F_step.2.1 103 = .ok (.lconst 1, 1) := by decide +kernel
theorem d_F_step_104 : decode md_F_step.2.1 104 = .ok (.ladd, 1) := by decide +kernel
theorem d_F_step_105 : decode md_F_step.2.1 105 = .ok (.lreturn, 1) := by decide +kernel
theorem d_F_step_106 : decode md_F_step.2.1 106 = .ok (.lload_n 1, 1) := by decide +kernel
theorem d_F_step_107 : decode md_F_step.2.1 107 = .ok (.lload_n 3, 1) := by decide +kernel
theorem d_F_step_108 : decode md_F_step.2.1 108 = .ok (.aload_n 0, 1) := by decide +kernel
theorem d_F_step_109 : decode md_F_step.2.1 109 = .ok (.getfield 26, 3) := by decide +kernel
theorem d_F_step_112 : decode md_F_step.2.1 112 = .ok (.lmul, 1) := by decide +kernel
theorem d_F_step_113 : decode md_F_step.2.1 113 = .ok (.lxor, 1) := by decide +kernel
theorem d_F_step_114 : decode md_F_step.2.1 114 = .ok (.lreturn, 1) := by decide +kernel
theorem d_F_step_115 : decode md_F_step.2.1 115 = .ok (.lload_n 1, 1) := by decide +kernel
theorem d_F_step_116 : decode md_F_step.2.1 116 = .ok (.lload 5, 2) := by decide +kernel
theorem d_F_step_118 : decode md_F_step.2.1 118 = .ok (.lcmp, 1) := by decide +kernel
theorem d_F_step_119 : decode md_F_step.2.1 119 = .ok (.ifCond .lt 7, 3) := by decide +kernel
theorem d_F_step_122 : decode md_F_step.2.1 122 = .ok (.lload_n 1, 1) := by decide +kernel
theorem d_F_step_123 : decode md_F_step.2.1 123 = .ok (.goto 5, 3) := by decide +kernel
theorem d_F_step_126 : decode md_F_step.2.1 126 = .ok (.lload 5, 2) := by decide +kernel
theorem d_F_step_128 : decode md_F_step.2.1 128 = .ok (.lreturn, 1) := by decide +kernel
theorem d_R_stateOfFirst_0 : decode md_R_stateOfFirst.2.1 0 = .ok (.aload_n 2, 1) := by decide +kernel
theorem d_R_stateOfFirst_1 : decode md_R_stateOfFirst.2.1 1 = .ok (.getfield 84, 3) := by decide +kernel
theorem d_R_stateOfFirst_4 : decode md_R_stateOfFirst.2.1 4 = .ok (.lstore_n 3, 1) := by decide +kernel
theorem d_R_stateOfFirst_5 : decode md_R_stateOfFirst.2.1 5 = .ok (.iconst 0, 1) := by decide +kernel
theorem d_R_stateOfFirst_6 : decode md_R_stateOfFirst.2.1 6 = .ok (.istore 5, 2) := by decide +kernel
theorem d_R_stateOfFirst_8 : decode md_R_stateOfFirst.2.1 8 = .ok (.iload 5, 2) := by decide +kernel
theorem d_R_stateOfFirst_10 : decode md_R_stateOfFirst.2.1 10 = .ok (.iload_n 1, 1) := by decide +kernel
theorem d_R_stateOfFirst_11 : decode md_R_stateOfFirst.2.1 11 = .ok (.if_icmp .ge 27, 3) := by decide +kernel
theorem d_R_stateOfFirst_14 : decode md_R_stateOfFirst.2.1 14 = .ok (.iload 5, 2) := by decide +kernel
theorem d_R_stateOfFirst_16 : decode md_R_stateOfFirst.2.1 16 = .ok (.aload_n 0, 1) := by decide +kernel
theorem d_R_stateOfFirst_17 : decode md_R_stateOfFirst.2.1 17 = .ok (.getfield 18, 3) := by decide +kernel
theorem d_R_stateOfFirst_20 : decode md_R_stateOfFirst.2.1 20 = .ok (.if_icmp .ge 18, 3) := by decide +kernel
theorem d_R_stateOfFirst_23 : decode md_R_stateOfFirst.2.1 23 = .ok (.aload_n 0, 1) := by decide +kernel
theorem d_R_stateOfFirst_24 : decode md_R_stateOfFirst.2.1 24 = .ok (.iload 5, 2) := by decide +kernel
theorem d_R_stateOfFirst_26 : decode md_R_stateOfFirst.2.1 26 = .ok (.aload_n 2, 1) := by decide +kernel
theorem d_R_stateOfFirst_27 : decode md_R_stateOfFirst.2.1 27 = .ok (.lload_n 3, 1) := by decide +kernel
theorem d_R_stateOfFirst_28 : decode md_R_stateOfFirst.2.1 28 = .ok (.invokevirtual 66, 3) := by decide +kernel
theorem d_R_stateOfFirst_31 : decode md_R_stateOfFirst.2.1 31 = .ok (.lstore_n 3, 1) := by decide +kernel
theorem d_R_stateOfFirst_32 : decode md_R_stateOfFirst.2.1 32 = .ok (.iinc 5 1, 3) := by decide +kernel
theorem d_R_stateOfFirst_35 : decode md_R_stateOfFirst.2.1 35 = .ok (.goto (-27), 3) := by decide +kernel
theorem d_R_stateOfFirst_38 : decode md_R_stateOfFirst.2.1 38 = .ok (.lload_n 3, 1) := by decide +kernel
theorem d_R_stateOfFirst_39 : decode md_R_stateOfFirst.2.1 39 = .ok (.lreturn, 1) := by decide +kernel
theorem d_K_letRowsLeave_0 : decode md_K_letRowsLeave.2.1 0 = .ok (.aload_n 0, 1) := by decide +kernel
theorem d_K_letRowsLeave_1 : decode md_K_letRowsLeave.2.1 1 = .ok (.getfield 76, 3) := by decide +kernel
theorem d_K_letRowsLeave_4 : decode md_K_letRowsLeave.2.1 4 = .ok (.ifCond .ne 4, 3) := by decide +kernel
theorem d_K_letRowsLeave_7 : decode md_K_letRowsLeave.2.1 7 = .ok (.return_, 1) := by decide +kernel
theorem d_K_letRowsLeave_8 : decode md_K_letRowsLeave.2.1 8 = .ok (.iconst 0, 1) := by decide +kernel
theorem d_K_letRowsLeave_9 : decode md_K_letRowsLeave.2.1 9 = .ok (.istore_n 1, 1) := by decide +kernel
theorem d_K_letRowsLeave_10 : decode md_K_letRowsLeave.2.1 10 = .ok (.iload_n 1, 1) := by decide +kernel
theorem d_K_letRowsLeave_11 : decode md_K_letRowsLeave.2.1 11 = .ok (.aload_n 0, 1) := by decide +kernel
theorem d_K_letRowsLeave_12 : decode md_K_letRowsLeave.2.1 12 = .ok (.getfield 16, 3) := by decide +kernel
theorem d_K_letRowsLeave_15 : decode md_K_letRowsLeave.2.1 15 = .ok (.invokevirtual 92, 3) := by decide +kernel
theorem d_K_letRowsLeave_18 : decode md_K_letRowsLeave.2.1 18 = .ok (.if_icmp .ge 42, 3) := by decide +kernel
theorem d_K_letRowsLeave_21 : decode md_K_letRowsLeave.2.1 21 = .ok (.aload_n 0, 1) := by decide +kernel
theorem d_K_letRowsLeave_22 : decode md_K_letRowsLeave.2.1 22 = .ok (.dup, 1) := by decide +kernel
theorem d_K_letRowsLeave_23 : decode md_K_letRowsLeave.2.1 23 = .ok (.getfield 66, 3) := by decide +kernel
theorem d_K_letRowsLeave_26 : decode md_K_letRowsLeave.2.1 26 = .ok (.aload_n 0, 1) := by decide +kernel
theorem d_K_letRowsLeave_27 : decode md_K_letRowsLeave.2.1 27 = .ok (.getfield 16, 3) := by decide +kernel
theorem d_K_letRowsLeave_30 : decode md_K_letRowsLeave.2.1 30 = .ok (.iload_n 1, 1) := by decide +kernel
theorem d_K_letRowsLeave_31 : decode md_K_letRowsLeave.2.1 31 = .ok (.invokevirtual 121, 3) := by decide +kernel
theorem d_K_letRowsLeave_34 : decode md_K_letRowsLeave.2.1 34 = .ok (.checkcast 196, 3) := by decide +kernel
theorem d_K_letRowsLeave_37 : decode md_K_letRowsLeave.2.1 37 = .ok (.aload_n 0, 1) := by decide +kernel
theorem d_K_letRowsLeave_38 : decode md_K_letRowsLeave.2.1 38 = .ok (.invokevirtual 240, 3) := by decide +kernel
theorem d_K_letRowsLeave_41 : decode md_K_letRowsLeave.2.1 41 = .ok (.aload_n 0, 1) := by decide +kernel
theorem d_K_letRowsLeave_42 : decode md_K_letRowsLeave.2.1 42 = .ok (.getfield 76, 3) := by decide +kernel
theorem d_K_letRowsLeave_45 : decode md_K_letRowsLeave.2.1 45 = .ok (.i2l, 1) := by decide +kernel
theorem d_K_letRowsLeave_46 : decode md_K_letRowsLeave.2.1 46 = .ok (.lsub, 1) := by decide +kernel
theorem d_K_letRowsLeave_47 : decode md_K_letRowsLeave.2.1 47 = .ok (.invokevirtual 307, 3) := by decide +kernel
theorem d_K_letRowsLeave_50 : decode md_K_letRowsLeave.2.1 50 = .ok (.iadd, 1) := by decide +kernel
theorem d_K_letRowsLeave_51 : decode md_K_letRowsLeave.2.1 51 = .ok (.putfield 66, 3) := by decide +kernel
theorem d_K_letRowsLeave_54 : decode md_K_letRowsLeave.2.1 54 = .ok (.iinc 1 1, 3) := by decide +kernel
theorem d_K_letRowsLeave_57 : decode md_K_letRowsLeave.2.1 57 = .ok (.goto (-47), 3) := by decide +kernel
theorem d_K_letRowsLeave_60 : decode md_K_letRowsLeave.2.1 60 = .ok (.return_, 1) := by decide +kernel
theorem d_R_leaveBelow_0 : decode md_R_leaveBelow.2.1 0 = .ok (.aload_n 0, 1) := by decide +kernel
theorem d_R_leaveBelow_1 : decode md_R_leaveBelow.2.1 1 = .ok (.lload_n 1, 1) := by decide +kernel
theorem d_R_leaveBelow_2 : decode md_R_leaveBelow.2.1 2 = .ok (.invokevirtual 42, 3) := by decide +kernel
theorem d_R_leaveBelow_5 : decode md_R_leaveBelow.2.1 5 = .ok (.istore_n 3, 1) := by decide +kernel
theorem d_R_leaveBelow_6 : decode md_R_leaveBelow.2.1 6 = .ok (.iload_n 3, 1) := by decide +kernel
theorem d_R_leaveBelow_7 : decode md_R_leaveBelow.2.1 7 = .ok (.ifCond .le 17, 3) := by decide +kernel
theorem d_R_leaveBelow_10 : decode md_R_leaveBelow.2.1 10 = .ok (.aload_n 0, 1) := by decide +kernel
theorem d_R_leaveBelow_11 : decode md_R_leaveBelow.2.1 11 = .ok (.iload_n 3, 1) := by decide +kernel
theorem d_R_leaveBelow_12 : decode md_R_leaveBelow.2.1 12 = .ok (.invokevirtual 74, 3) := by decide +kernel
theorem d_R_leaveBelow_15 : decode md_R_leaveBelow.2.1 15 = .ok (.aload_n 0, 1) := by decide +kernel
theorem d_R_leaveBelow_16 : decode md_R_leaveBelow.2.1 16 = .ok (.iload_n 3, 1) := by decide +kernel
theorem d_R_leaveBelow_17 : decode md_R_leaveBelow.2.1 17 = .ok (.invokevirtual 78, 3) := by decide +kernel
theorem d_R_leaveBelow_20 : decode md_R_leaveBelow.2.1 20 = .ok (.aload_n 0, 1) := by decide +kernel
theorem d_R_leaveBelow_21 : decode md_R_leaveBelow.2.1 21 = .ok (.invokevirtual 81, 3) := by decide +kernel
theorem d_R_leaveBelow_24 : decode md_R_leaveBelow.2.1 24 = .ok (.iload_n 3, 1) := by decide +kernel
theorem d_R_leaveBelow_25 : decode md_R_leaveBelow.2.1 25 = .ok (.ireturn, 1) := by decide +kernel
theorem d_R_takeBackFirst_0 : decode md_R_takeBackFirst.2.1 0 = .ok (.iconst 0, 1) := by decide +kernel
theorem d_R_takeBackFirst_1 : decode md_R_takeBackFirst.2.1 1 = .ok (.istore_n 2, 1) := by decide +kernel
theorem d_R_takeBackFirst_2 : decode md_R_takeBackFirst.2.1 2 = .ok (.iload_n 2, 1) := by decide +kernel
theorem d_R_takeBackFirst_3 : decode md_R_takeBackFirst.2.1 3 = .ok (.aload_n 0, 1) := by decide +kernel
theorem d_R_takeBackFirst_4 : decode md_R_takeBackFirst.2.1 4 = .ok (.getfield 29, 3) := by decide +kernel
theorem d_R_takeBackFirst_7 : decode md_R_takeBackFirst.2.1 7 = .ok (.invokevirtual 50, 3) := by decide +kernel
theorem d_R_takeBackFirst_10 : decode md_R_takeBackFirst.2.1 10 = .ok (.if_icmp .ge 76, 3) := by decide +kernel
theorem d_R_takeBackFirst_13 : decode md_R_takeBackFirst.2.1 13 = .ok (.aload_n 0, 1) := by decide +kernel
theorem d_R_takeBackFirst_14 : decode md_R_takeBackFirst.2.1 14 = .ok (.getfield 29, 3) := by decide +kernel
theorem d_R_takeBackFirst_17 : decode md_R_takeBackFirst.2.1 17 = .ok (.iload_n 2, 1) := by decide +kernel
theorem d_R_takeBackFirst_18 : decode md_R_takeBackFirst.2.1 18 = .ok (.invokevirtual 56, 3) := by decide +kernel
theorem d_R_takeBackFirst_21 : decode md_R_takeBackFirst.2.1 21 = .ok (.checkcast 60, 3) := by decide +kernel
theorem d_R_takeBackFirst_24 : decode md_R_takeBackFirst.2.1 24 = .ok (.astore_n 3, 1) := by decide +kernel
theorem d_R_takeBackFirst_25 : decode md_R_takeBackFirst.2.1 25 = .ok (.aload_n 3, 1) := by decide +kernel
theorem d_R_takeBackFirst_26 : decode md_R_takeBackFirst.2.1 26 = .ok (.invokevirtual 91, 3) := by decide +kernel
theorem d_R_takeBackFirst_29 : decode md_R_takeBackFirst.2.1 29 = .ok (.ifCond .eq 51, 3) := by decide +kernel
theorem d_R_takeBackFirst_32 : decode md_R_takeBackFirst.2.1 32 = .ok (.iconst 0, 1) := by decide +kernel
theorem d_R_takeBackFirst_33 : decode md_R_takeBackFirst.2.1 33 = .ok (.istore 4, 2) := by decide +kernel
theorem d_R_takeBackFirst_35 : decode md_R_takeBackFirst.2.1 35 = .ok (.iload 4, 2) := by decide +kernel
theorem d_R_takeBackFirst_37 : decode md_R_takeBackFirst.2.1 37 = .ok (.iload_n 1, 1) := by decide +kernel
theorem d_R_takeBackFirst_38 : decode md_R_takeBackFirst.2.1 38 = .ok (.if_icmp .ge 32, 3) := by decide +kernel
theorem d_R_takeBackFirst_41 : decode md_R_takeBackFirst.2.1 41 = .ok (.aload_n 0, 1) := by decide +kernel
theorem d_R_takeBackFirst_42 : decode md_R_takeBackFirst.2.1 42 = .ok (.getfield 33, 3) := by decide +kernel
theorem d_R_takeBackFirst_45 : decode md_R_takeBackFirst.2.1 45 = .ok (.iload_n 2, 1) := by decide +kernel
theorem d_R_takeBackFirst_46 : decode md_R_takeBackFirst.2.1 46 = .ok (.aload_n 3, 1) := by decide +kernel
theorem d_R_takeBackFirst_47 : decode md_R_takeBackFirst.2.1 47 = .ok (.aload_n 0, 1) := by decide +kernel
theorem d_R_takeBackFirst_48 : decode md_R_takeBackFirst.2.1 48 = .ok (.getfield 33, 3) := by decide +kernel
theorem d_R_takeBackFirst_51 : decode md_R_takeBackFirst.2.1 51 = .ok (.iload_n 2, 1) := by decide +kernel
theorem d_R_takeBackFirst_52 : decode md_R_takeBackFirst.2.1 52 = .ok (.laload, 1) := by decide +kernel
theorem d_R_takeBackFirst_53 : decode md_R_takeBackFirst.2.1 53 = .ok (.aload_n 0, 1) := by decide +kernel
theorem d_R_takeBackFirst_54 : decode md_R_takeBackFirst.2.1 54 = .ok (.getfield 15, 3) := by decide +kernel
theorem d_R_takeBackFirst_57 : decode md_R_takeBackFirst.2.1 57 = .ok (.iload 4, 2) := by decide +kernel
theorem d_R_takeBackFirst_59 : decode md_R_takeBackFirst.2.1 59 = .ok (.laload, 1) := by decide +kernel
theorem d_R_takeBackFirst_60 : decode md_R_takeBackFirst.2.1 60 = .ok (.invokevirtual 94, 3) := by decide +kernel
theorem d_R_takeBackFirst_63 : decode md_R_takeBackFirst.2.1 63 = .ok (.lastore, 1) := by decide +kernel
theorem d_R_takeBackFirst_64 : decode md_R_takeBackFirst.2.1 64 = .ok (.iinc 4 1, 3) := by decide +kernel
theorem d_R_takeBackFirst_67 : decode md_R_takeBackFirst.2.1 67 = .ok (.goto (-32), 3) := by decide +kernel
theorem d_R_takeBackFirst_70 : decode md_R_takeBackFirst.2.1 70 = .ok (.aload_n 0, 1) := by decide +kernel
theorem d_R_takeBackFirst_71 : decode md_R_takeBackFirst.2.1 71 = .ok (.dup, 1) := by decide +kernel
theorem d_R_takeBackFirst_72 : decode md_R_takeBackFirst.2.1 72 = .ok (.getfield 22, 3) := by decide +kernel
theorem d_R_takeBackFirst_75 : decode md_R_takeBackFirst.2.1 75 = .ok (.iload_n 1, 1) := by decide +kernel
theorem d_R_takeBackFirst_76 : decode md_R_takeBackFirst.2.1 76 = .ok (.iadd, 1) := by decide +kernel
theorem d_R_takeBackFirst_77 : decode md_R_takeBackFirst.2.1 77 = .ok (.putfield 22, 3) := by decide +kernel
theorem d_R_takeBackFirst_80 : decode md_R_takeBackFirst.2.1 80 = .ok (.iinc 2 1, 3) := by decide +kernel
theorem d_R_takeBackFirst_83 : decode md_R_takeBackFirst.2.1 83 = .ok (.goto (-81), 3) := by decide +kernel
theorem d_R_takeBackFirst_86 : decode md_R_takeBackFirst.2.1 86 = .ok (.return_, 1) := by decide +kernel
theorem d_F_stepTakenBack_0 : decode md_F_stepTakenBack.2.1 0 = .ok (.aload_n 0, 1) := by decide +kernel
theorem d_F_stepTakenBack_1 : decode md_F_stepTakenBack.2.1 1 = .ok (.getfield 19, 3) := by decide +kernel
theorem d_F_stepTakenBack_4 : decode md_F_stepTakenBack.2.1 4 = .ok (.lookupswitch 53 #[(0, 36), (6, 40), (7, 44)], 36) := by decide +kernel
theorem d_F_stepTakenBack_40 : decode md_F_stepTakenBack.2.1 40 = .ok (.lload_n 1, 1) := by decide +kernel
theorem d_F_stepTakenBack_41 : decode md_F_stepTakenBack.2.1 41 = .ok (.lload_n 3, 1) := by decide +kernel
theorem d_F_stepTakenBack_42 : decode md_F_stepTakenBack.2.1 42 = .ok (.lsub, 1) := by decide +kernel
theorem d_F_stepTakenBack_43 : decode md_F_stepTakenBack.2.1 43 = .ok (.lreturn, 1) := by decide +kernel
theorem d_F_stepTakenBack_44 : decode md_F_stepTakenBack.2.1 44 = .ok (.lload_n 1, 1) := by decide +kernel
theorem d_F_stepTakenBack_45 : decode md_F_stepTakenBack.2.1 45 = .ok (.lconst 1, 1) := by decide +kernel
theorem d_F_stepTakenBack_46 : decode md_F_stepTakenBack.2.1 46 = .ok (.lsub, 1) := by decide +kernel
theorem d_F_stepTakenBack_47 : decode md_F_stepTakenBack.2.1 47 = .ok (.lreturn, 1) := by decide +kernel
theorem d_F_stepTakenBack_48 : decode md_F_stepTakenBack.2.1 48 = .ok (.lload_n 1, 1) := by decide +kernel
theorem d_F_stepTakenBack_49 : decode md_F_stepTakenBack.2.1 49 = .ok (.lload_n 3, 1) := by decide +kernel
theorem d_F_stepTakenBack_50 : decode md_F_stepTakenBack.2.1 50 = .ok (.aload_n 0, 1) := by decide +kernel
theorem d_F_stepTakenBack_51 : decode md_F_stepTakenBack.2.1 51 = .ok (.getfield 26, 3) := by decide +kernel
theorem d_F_stepTakenBack_54 : decode md_F_stepTakenBack.2.1 54 = .ok (.lmul, 1) := by decide +kernel
theorem d_F_stepTakenBack_55 : decode md_F_stepTakenBack.2.1 55 = .ok (.lxor, 1) := by decide +kernel
theorem d_F_stepTakenBack_56 : decode md_F_stepTakenBack.2.1 56 = .ok (.lreturn, 1) := by decide +kernel
theorem d_F_stepTakenBack_57 : decode md_F_stepTakenBack.2.1 57 = .ok (.lload_n 1, 1) := by decide +kernel
theorem d_F_stepTakenBack_58 : decode md_F_stepTakenBack.2.1 58 = .ok (.lreturn, 1) := by decide +kernel
theorem d_R_removeFirst_0 : decode md_R_removeFirst.2.1 0 = .ok (.iload_n 1, 1) := by decide +kernel
theorem d_R_removeFirst_1 : decode md_R_removeFirst.2.1 1 = .ok (.istore_n 2, 1) := by decide +kernel
theorem d_R_removeFirst_2 : decode md_R_removeFirst.2.1 2 = .ok (.iload_n 2, 1) := by decide +kernel
theorem d_R_removeFirst_3 : decode md_R_removeFirst.2.1 3 = .ok (.aload_n 0, 1) := by decide +kernel
theorem d_R_removeFirst_4 : decode md_R_removeFirst.2.1 4 = .ok (.getfield 18, 3) := by decide +kernel
theorem d_R_removeFirst_7 : decode md_R_removeFirst.2.1 7 = .ok (.if_icmp .ge 37, 3) := by decide +kernel
theorem d_R_removeFirst_10 : decode md_R_removeFirst.2.1 10 = .ok (.aload_n 0, 1) := by decide +kernel
theorem d_R_removeFirst_11 : decode md_R_removeFirst.2.1 11 = .ok (.getfield 9, 3) := by decide +kernel
theorem d_R_removeFirst_14 : decode md_R_removeFirst.2.1 14 = .ok (.iload_n 2, 1) := by decide +kernel
theorem d_R_removeFirst_15 : decode md_R_removeFirst.2.1 15 = .ok (.iload_n 1, 1) := by decide +kernel
theorem d_R_removeFirst_16 : decode md_R_removeFirst.2.1 16 = .ok (.isub, 1) := by decide +kernel
theorem d_R_removeFirst_17 : decode md_R_removeFirst.2.1 17 = .ok (.aload_n 0, 1) := by decide +kernel
theorem d_R_removeFirst_18 : decode md_R_removeFirst.2.1 18 = .ok (.getfield 9, 3) := by decide +kernel
theorem d_R_removeFirst_21 : decode md_R_removeFirst.2.1 21 = .ok (.iload_n 2, 1) := by decide +kernel
theorem d_R_removeFirst_22 : decode md_R_removeFirst.2.1 22 = .ok (.laload, 1) := by decide +kernel
theorem d_R_removeFirst_23 : decode md_R_removeFirst.2.1 23 = .ok (.lastore, 1) := by decide +kernel
theorem d_R_removeFirst_24 : decode md_R_removeFirst.2.1 24 = .ok (.aload_n 0, 1) := by decide +kernel
theorem d_R_removeFirst_25 : decode md_R_removeFirst.2.1 25 = .ok (.getfield 15, 3) := by decide +kernel
theorem d_R_removeFirst_28 : decode md_R_removeFirst.2.1 28 = .ok (.iload_n 2, 1) := by decide +kernel
theorem d_R_removeFirst_29 : decode md_R_removeFirst.2.1 29 = .ok (.iload_n 1, 1) := by decide +kernel
theorem d_R_removeFirst_30 : decode md_R_removeFirst.2.1 30 = .ok (.isub, 1) := by decide +kernel
theorem d_R_removeFirst_31 : decode md_R_removeFirst.2.1 31 = .ok (.aload_n 0, 1) := by decide +kernel
theorem d_R_removeFirst_32 : decode md_R_removeFirst.2.1 32 = .ok (.getfield 15, 3) := by decide +kernel
theorem d_R_removeFirst_35 : decode md_R_removeFirst.2.1 35 = .ok (.iload_n 2, 1) := by decide +kernel
theorem d_R_removeFirst_36 : decode md_R_removeFirst.2.1 36 = .ok (.laload, 1) := by decide +kernel
theorem d_R_removeFirst_37 : decode md_R_removeFirst.2.1 37 = .ok (.lastore, 1) := by decide +kernel
theorem d_R_removeFirst_38 : decode md_R_removeFirst.2.1 38 = .ok (.iinc 2 1, 3) := by decide +kernel
theorem d_R_removeFirst_41 : decode md_R_removeFirst.2.1 41 = .ok (.goto (-39), 3) := by decide +kernel
theorem d_R_removeFirst_44 : decode md_R_removeFirst.2.1 44 = .ok (.aload_n 0, 1) := by decide +kernel
theorem d_R_removeFirst_45 : decode md_R_removeFirst.2.1 45 = .ok (.dup, 1) := by decide +kernel
theorem d_R_removeFirst_46 : decode md_R_removeFirst.2.1 46 = .ok (.getfield 18, 3) := by decide +kernel
theorem d_R_removeFirst_49 : decode md_R_removeFirst.2.1 49 = .ok (.iload_n 1, 1) := by decide +kernel
theorem d_R_removeFirst_50 : decode md_R_removeFirst.2.1 50 = .ok (.isub, 1) := by decide +kernel
theorem d_R_removeFirst_51 : decode md_R_removeFirst.2.1 51 = .ok (.putfield 18, 3) := by decide +kernel
theorem d_R_removeFirst_54 : decode md_R_removeFirst.2.1 54 = .ok (.return_, 1) := by decide +kernel
theorem d_R_foldTheOthersAnew_0 : decode md_R_foldTheOthersAnew.2.1 0 = .ok (.iconst 0, 1) := by decide +kernel
theorem d_R_foldTheOthersAnew_1 : decode md_R_foldTheOthersAnew.2.1 1 = .ok (.istore_n 1, 1) := by decide +kernel
theorem d_R_foldTheOthersAnew_2 : decode md_R_foldTheOthersAnew.2.1 2 = .ok (.iload_n 1, 1) := by decide +kernel
theorem d_R_foldTheOthersAnew_3 : decode md_R_foldTheOthersAnew.2.1 3 = .ok (.aload_n 0, 1) := by decide +kernel
theorem d_R_foldTheOthersAnew_4 : decode md_R_foldTheOthersAnew.2.1 4 = .ok (.getfield 29, 3) := by decide +kernel
theorem d_R_foldTheOthersAnew_7 : decode md_R_foldTheOthersAnew.2.1 7 = .ok (.invokevirtual 50, 3) := by decide +kernel
theorem d_R_foldTheOthersAnew_10 : decode md_R_foldTheOthersAnew.2.1 10 = .ok (.if_icmp .ge 56, 3) := by decide +kernel
theorem d_R_foldTheOthersAnew_13 : decode md_R_foldTheOthersAnew.2.1 13 = .ok (.aload_n 0, 1) := by decide +kernel
theorem d_R_foldTheOthersAnew_14 : decode md_R_foldTheOthersAnew.2.1 14 = .ok (.getfield 29, 3) := by decide +kernel
theorem d_R_foldTheOthersAnew_17 : decode md_R_foldTheOthersAnew.2.1 17 = .ok (.iload_n 1, 1) := by decide +kernel
theorem d_R_foldTheOthersAnew_18 : decode md_R_foldTheOthersAnew.2.1 18 = .ok (.invokevirtual 56, 3) := by decide +kernel
theorem d_R_foldTheOthersAnew_21 : decode md_R_foldTheOthersAnew.2.1 21 = .ok (.checkcast 60, 3) := by decide +kernel
theorem d_R_foldTheOthersAnew_24 : decode md_R_foldTheOthersAnew.2.1 24 = .ok (.astore_n 2, 1) := by decide +kernel
theorem d_R_foldTheOthersAnew_25 : decode md_R_foldTheOthersAnew.2.1 25 = .ok (.aload_n 2, 1) := by decide +kernel
theorem d_R_foldTheOthersAnew_26 : decode md_R_foldTheOthersAnew.2.1 26 = .ok (.invokevirtual 91, 3) := by decide +kernel
theorem d_R_foldTheOthersAnew_29 : decode md_R_foldTheOthersAnew.2.1 29 = .ok (.ifCond .ne 31, 3) := by decide +kernel
theorem d_R_foldTheOthersAnew_32 : decode md_R_foldTheOthersAnew.2.1 32 = .ok (.aload_n 0, 1) := by decide +kernel
theorem d_R_foldTheOthersAnew_33 : decode md_R_foldTheOthersAnew.2.1 33 = .ok (.getfield 33, 3) := by decide +kernel
theorem d_R_foldTheOthersAnew_36 : decode md_R_foldTheOthersAnew.2.1 36 = .ok (.iload_n 1, 1) := by decide +kernel
theorem d_R_foldTheOthersAnew_37 : decode md_R_foldTheOthersAnew.2.1 37 = .ok (.aload_n 0, 1) := by decide +kernel
theorem d_R_foldTheOthersAnew_38 : decode md_R_foldTheOthersAnew.2.1 38 = .ok (.aload_n 0, 1) := by decide +kernel
theorem d_R_foldTheOthersAnew_39 : decode md_R_foldTheOthersAnew.2.1 39 = .ok (.getfield 18, 3) := by decide +kernel
theorem d_R_foldTheOthersAnew_42 : decode md_R_foldTheOthersAnew.2.1 42 = .ok (.aload_n 2, 1) := by decide +kernel
theorem d_R_foldTheOthersAnew_43 : decode md_R_foldTheOthersAnew.2.1 43 = .ok (.invokevirtual 70, 3) := by decide +kernel
theorem d_R_foldTheOthersAnew_46 : decode md_R_foldTheOthersAnew.2.1 46 = .ok (.lastore, 1) := by decide +kernel
theorem d_R_foldTheOthersAnew_47 : decode md_R_foldTheOthersAnew.2.1 47 = .ok (.aload_n 0, 1) := by decide +kernel
theorem d_R_foldTheOthersAnew_48 : decode md_R_foldTheOthersAnew.2.1 48 = .ok (.dup, 1) := by decide +kernel
theorem d_R_foldTheOthersAnew_49 : decode md_R_foldTheOthersAnew.2.1 49 = .ok (.getfield 22, 3) := by decide +kernel
theorem d_R_foldTheOthersAnew_52 : decode md_R_foldTheOthersAnew.2.1 52 = .ok (.aload_n 0, 1) := by decide +kernel
theorem d_R_foldTheOthersAnew_53 : decode md_R_foldTheOthersAnew.2.1 53 = .ok (.getfield 18, 3) := by decide +kernel
theorem d_R_foldTheOthersAnew_56 : decode md_R_foldTheOthersAnew.2.1 56 = .ok (.iadd, 1) := by decide +kernel
theorem d_R_foldTheOthersAnew_57 : decode md_R_foldTheOthersAnew.2.1 57 = .ok (.putfield 22, 3) := by decide +kernel
theorem d_R_foldTheOthersAnew_60 : decode md_R_foldTheOthersAnew.2.1 60 = .ok (.iinc 1 1, 3) := by decide +kernel
theorem d_R_foldTheOthersAnew_63 : decode md_R_foldTheOthersAnew.2.1 63 = .ok (.goto (-61), 3) := by decide +kernel
theorem d_R_foldTheOthersAnew_66 : decode md_R_foldTheOthersAnew.2.1 66 = .ok (.return_, 1) := by decide +kernel
theorem d_K_doTimers_0 : decode md_K_doTimers.2.1 0 = .ok (.aload_n 0, 1) := by decide +kernel
theorem d_K_doTimers_1 : decode md_K_doTimers.2.1 1 = .ok (.getfield 82, 3) := by decide +kernel
theorem d_K_doTimers_4 : decode md_K_doTimers.2.1 4 = .ok (.ifCond .eq 12, 3) := by decide +kernel
theorem d_K_doTimers_7 : decode md_K_doTimers.2.1 7 = .ok (.aload_n 0, 1) := by decide +kernel
theorem d_K_doTimers_8 : decode md_K_doTimers.2.1 8 = .ok (.invokevirtual 240, 3) := by decide +kernel
theorem d_K_doTimers_11 : decode md_K_doTimers.2.1 11 = .ok (.lconst 0, 1) := by decide +kernel
theorem d_K_doTimers_12 : decode md_K_doTimers.2.1 12 = .ok (.lcmp, 1) := by decide +kernel
theorem d_K_doTimers_13 : decode md_K_doTimers.2.1 13 = .ok (.ifCond .gt 4, 3) := by decide +kernel
theorem d_K_doTimers_16 : decode md_K_doTimers.2.1 16 = .ok (.return_, 1) := by decide +kernel
theorem d_K_doTimers_17 : decode md_K_doTimers.2.1 17 = .ok (.aload_n 0, 1) := by decide +kernel
theorem d_K_doTimers_18 : decode md_K_doTimers.2.1 18 = .ok (.invokevirtual 240, 3) := by decide +kernel
theorem d_K_doTimers_21 : decode md_K_doTimers.2.1 21 = .ok (.aload_n 0, 1) := by decide +kernel
theorem d_K_doTimers_22 : decode md_K_doTimers.2.1 22 = .ok (.getfield 82, 3) := by decide +kernel
theorem d_K_doTimers_25 : decode md_K_doTimers.2.1 25 = .ok (.i2l, 1) := by decide +kernel
theorem d_K_doTimers_26 : decode md_K_doTimers.2.1 26 = .ok (.ldiv, 1) := by decide +kernel
theorem d_K_doTimers_27 : decode md_K_doTimers.2.1 27 = .ok (.aload_n 0, 1) := by decide +kernel
theorem d_K_doTimers_28 : decode md_K_doTimers.2.1 28 = .ok (.getfield 82, 3) := by decide +kernel
theorem d_K_doTimers_31 : decode md_K_doTimers.2.1 31 = .ok (.i2l, 1) := by decide +kernel
theorem d_K_doTimers_32 : decode md_K_doTimers.2.1 32 = .ok (.lmul, 1) := by decide +kernel
theorem d_K_doTimers_33 : decode md_K_doTimers.2.1 33 = .ok (.lstore_n 1, 1) := by decide +kernel
theorem d_K_doTimers_34 : decode md_K_doTimers.2.1 34 = .ok (.lload_n 1, 1) := by decide +kernel
theorem d_K_doTimers_35 : decode md_K_doTimers.2.1 35 = .ok (.aload_n 0, 1) := by decide +kernel
theorem d_K_doTimers_36 : decode md_K_doTimers.2.1 36 = .ok (.getfield 51, 3) := by decide +kernel
theorem d_K_doTimers_39 : decode md_K_doTimers.2.1 39 = .ok (.lsub, 1) := by decide +kernel
theorem d_K_doTimers_40 : decode md_K_doTimers.2.1 40 = .ok (.aload_n 0, 1) := by decide +kernel
theorem d_K_doTimers_41 : decode md_K_doTimers.2.1 41 = .ok (.getfield 82, 3) := by decide +kernel
theorem d_K_doTimers_44 : decode md_K_doTimers.2.1 44 = .ok (.i2l, 1) := by decide +kernel
theorem d_K_doTimers_45 : decode md_K_doTimers.2.1 45 = .ok (.ldiv, 1) := by decide +kernel
theorem d_K_doTimers_46 : decode md_K_doTimers.2.1 46 = .ok (.ldc2_w 310, 3) := by decide +kernel
theorem d_K_doTimers_49 : decode md_K_doTimers.2.1 49 = .ok (.invokestatic 312, 3) := by decide +kernel
theorem d_K_doTimers_52 : decode md_K_doTimers.2.1 52 = .ok (.lstore_n 3, 1) := by decide +kernel
theorem d_K_doTimers_53 : decode md_K_doTimers.2.1 53 = .ok (.lload_n 3, 1) := by decide +kernel
theorem d_K_doTimers_54 : decode md_K_doTimers.2.1 54 = .ok (.lconst 1, 1) := by decide +kernel
theorem d_K_doTimers_55 : decode md_K_doTimers.2.1 55 = .ok (.lsub, 1) := by decide +kernel
theorem d_K_doTimers_56 : decode md_K_doTimers.2.1 56 = .ok (.lstore 5, 2) := by decide +kernel
theorem d_K_doTimers_58 : decode md_K_doTimers.2.1 58 = .ok (.lload 5, 2) := by decide +kernel
theorem d_K_doTimers_60 : decode md_K_doTimers.2.1 60 = .ok (.lconst 0, 1) := by decide +kernel
theorem d_K_doTimers_61 : decode md_K_doTimers.2.1 61 = .ok (.lcmp, 1) := by decide +kernel
theorem d_K_doTimers_62 : decode md_K_doTimers.2.1 62 = .ok (.ifCond .lt 26, 3) := by decide +kernel
theorem d_K_doTimers_65 : decode md_K_doTimers.2.1 65 = .ok (.aload_n 0, 1) := by decide +kernel
theorem d_K_doTimers_66 : decode md_K_doTimers.2.1 66 = .ok (.lload_n 1, 1) := by decide +kernel
theorem d_K_doTimers_67 : decode md_K_doTimers.2.1 67 = .ok (.lload 5, 2) := by decide +kernel
theorem d_K_doTimers_69 : decode md_K_doTimers.2.1 69 = .ok (.aload_n 0, 1) := by decide +kernel
theorem d_K_doTimers_70 : decode md_K_doTimers.2.1 70 = .ok (.getfield 82, 3) := by decide +kernel
theorem d_K_doTimers_73 : decode md_K_doTimers.2.1 73 = .ok (.i2l, 1) := by decide +kernel
theorem d_K_doTimers_74 : decode md_K_doTimers.2.1 74 = .ok (.lmul, 1) := by decide +kernel
theorem d_K_doTimers_75 : decode md_K_doTimers.2.1 75 = .ok (.lsub, 1) := by decide +kernel
theorem d_K_doTimers_76 : decode md_K_doTimers.2.1 76 = .ok (.invokevirtual 314, 3) := by decide +kernel
theorem d_K_doTimers_79 : decode md_K_doTimers.2.1 79 = .ok (.lload 5, 2) := by decide +kernel
theorem d_K_doTimers_81 : decode md_K_doTimers.2.1 81 = .ok (.lconst 1, 1) := by decide +kernel
theorem d_K_doTimers_82 : decode md_K_doTimers.2.1 82 = .ok (.lsub, 1) := by decide +kernel
theorem d_K_doTimers_83 : decode md_K_doTimers.2.1 83 = .ok (.lstore 5, 2) := by decide +kernel
theorem d_K_doTimers_85 : decode md_K_doTimers.2.1 85 = .ok (.goto (-27), 3) := by decide +kernel
end
section
theorem d_K_doTimers_88 : decode md_K_doTimers.2.1 88 = .ok (.aload_n 0, 1) := by decide +kernel
theorem d_K_doTimers_89 : decode md_K_doTimers.2.1 89 = .ok (.lload_n 1, 1) := by decide +kernel
theorem d_K_doTimers_90 : decode md_K_doTimers.2.1 90 = .ok (.putfield 51, 3) := by decide +kernel
theorem d_K_doTimers_93 : decode md_K_doTimers.2.1 93 = .ok (.return_, 1) := by decide +kernel
theorem d_K_tellStatesBelow_0 : decode md_K_tellStatesBelow.2.1 0 = .ok (.iconst 0, 1) := by decide +kernel
theorem d_K_tellStatesBelow_1 : decode md_K_tellStatesBelow.2.1 1 = .ok (.istore_n 3, 1) := by decide +kernel
theorem d_K_tellStatesBelow_2 : decode md_K_tellStatesBelow.2.1 2 = .ok (.iload_n 3, 1) := by decide +kernel
theorem d_K_tellStatesBelow_3 : decode md_K_tellStatesBelow.2.1 3 = .ok (.aload_n 0, 1) := by decide +kernel
theorem d_K_tellStatesBelow_4 : decode md_K_tellStatesBelow.2.1 4 = .ok (.getfield 16, 3) := by decide +kernel
theorem d_K_tellStatesBelow_7 : decode md_K_tellStatesBelow.2.1 7 = .ok (.invokevirtual 92, 3) := by decide +kernel
theorem d_K_tellStatesBelow_10 : decode md_K_tellStatesBelow.2.1 10 = .ok (.if_icmp .ge 44, 3) := by decide +kernel
theorem d_K_tellStatesBelow_13 : decode md_K_tellStatesBelow.2.1 13 = .ok (.aload_n 0, 1) := by decide +kernel
theorem d_K_tellStatesBelow_14 : decode md_K_tellStatesBelow.2.1 14 = .ok (.getfield 16, 3) := by decide +kernel
theorem d_K_tellStatesBelow_17 : decode md_K_tellStatesBelow.2.1 17 = .ok (.iload_n 3, 1) := by decide +kernel
theorem d_K_tellStatesBelow_18 : decode md_K_tellStatesBelow.2.1 18 = .ok (.invokevirtual 121, 3) := by decide +kernel
theorem d_K_tellStatesBelow_21 : decode md_K_tellStatesBelow.2.1 21 = .ok (.checkcast 196, 3) := by decide +kernel
theorem d_K_tellStatesBelow_24 : decode md_K_tellStatesBelow.2.1 24 = .ok (.astore 4, 2) := by decide +kernel
theorem d_K_tellStatesBelow_26 : decode md_K_tellStatesBelow.2.1 26 = .ok (.aload 4, 2) := by decide +kernel
theorem d_K_tellStatesBelow_28 : decode md_K_tellStatesBelow.2.1 28 = .ok (.lload_n 1, 1) := by decide +kernel
theorem d_K_tellStatesBelow_29 : decode md_K_tellStatesBelow.2.1 29 = .ok (.invokevirtual 317, 3) := by decide +kernel
theorem d_K_tellStatesBelow_32 : decode md_K_tellStatesBelow.2.1 32 = .ok (.istore 5, 2) := by decide +kernel
theorem d_K_tellStatesBelow_34 : decode md_K_tellStatesBelow.2.1 34 = .ok (.iload 5, 2) := by decide +kernel
theorem d_K_tellStatesBelow_36 : decode md_K_tellStatesBelow.2.1 36 = .ok (.ifCond .le 12, 3) := by decide +kernel
theorem d_K_tellStatesBelow_39 : decode md_K_tellStatesBelow.2.1 39 = .ok (.aload_n 0, 1) := by decide +kernel
theorem d_K_tellStatesBelow_40 : decode md_K_tellStatesBelow.2.1 40 = .ok (.lload_n 1, 1) := by decide +kernel
theorem d_K_tellStatesBelow_41 : decode md_K_tellStatesBelow.2.1 41 = .ok (.aload 4, 2) := by decide +kernel
theorem d_K_tellStatesBelow_43 : decode md_K_tellStatesBelow.2.1 43 = .ok (.iload 5, 2) := by decide +kernel
theorem d_K_tellStatesBelow_45 : decode md_K_tellStatesBelow.2.1 45 = .ok (.invokevirtual 320, 3) := by decide +kernel
theorem d_K_tellStatesBelow_48 : decode md_K_tellStatesBelow.2.1 48 = .ok (.iinc 3 1, 3) := by decide +kernel
theorem d_K_tellStatesBelow_51 : decode md_K_tellStatesBelow.2.1 51 = .ok (.goto (-49), 3) := by decide +kernel
theorem d_K_tellStatesBelow_54 : decode md_K_tellStatesBelow.2.1 54 = .ok (.return_, 1) := by decide +kernel
theorem d_K_putOut_0 : decode md_K_putOut.2.1 0 = .ok (.aload_n 0, 1) := by decide +kernel
theorem d_K_putOut_1 : decode md_K_putOut.2.1 1 = .ok (.getfield 35, 3) := by decide +kernel
theorem d_K_putOut_4 : decode md_K_putOut.2.1 4 = .ok (.invokevirtual 284, 3) := by decide +kernel
theorem d_K_putOut_7 : decode md_K_putOut.2.1 7 = .ok (.istore 5, 2) := by decide +kernel
theorem d_K_putOut_9 : decode md_K_putOut.2.1 9 = .ok (.iload 5, 2) := by decide +kernel
theorem d_K_putOut_11 : decode md_K_putOut.2.1 11 = .ok (.iconst (-1), 1) := by decide +kernel
theorem d_K_putOut_12 : decode md_K_putOut.2.1 12 = .ok (.if_icmp .eq 80, 3) := by decide +kernel
theorem d_K_putOut_15 : decode md_K_putOut.2.1 15 = .ok (.aload_n 0, 1) := by decide +kernel
theorem d_K_putOut_16 : decode md_K_putOut.2.1 16 = .ok (.getfield 35, 3) := by decide +kernel
theorem d_K_putOut_19 : decode md_K_putOut.2.1 19 = .ok (.iload 5, 2) := by decide +kernel
theorem d_K_putOut_21 : decode md_K_putOut.2.1 21 = .ok (.iconst 0, 1) := by decide +kernel
theorem d_K_putOut_22 : decode md_K_putOut.2.1 22 = .ok (.lload_n 1, 1) := by decide +kernel
theorem d_K_putOut_23 : decode md_K_putOut.2.1 23 = .ok (.invokevirtual 287, 3) := by decide +kernel
theorem d_K_putOut_26 : decode md_K_putOut.2.1 26 = .ok (.aload_n 0, 1) := by decide +kernel
theorem d_K_putOut_27 : decode md_K_putOut.2.1 27 = .ok (.getfield 35, 3) := by decide +kernel
theorem d_K_putOut_30 : decode md_K_putOut.2.1 30 = .ok (.iload 5, 2) := by decide +kernel
theorem d_K_putOut_32 : decode md_K_putOut.2.1 32 = .ok (.iconst 1, 1) := by decide +kernel
theorem d_K_putOut_33 : decode md_K_putOut.2.1 33 = .ok (.aload_n 3, 1) := by decide +kernel
theorem d_K_putOut_34 : decode md_K_putOut.2.1 34 = .ok (.getfield 268, 3) := by decide +kernel
theorem d_K_putOut_37 : decode md_K_putOut.2.1 37 = .ok (.invokevirtual 287, 3) := by decide +kernel
theorem d_K_putOut_40 : decode md_K_putOut.2.1 40 = .ok (.iconst 0, 1) := by decide +kernel
theorem d_K_putOut_41 : decode md_K_putOut.2.1 41 = .ok (.istore 6, 2) := by decide +kernel
theorem d_K_putOut_43 : decode md_K_putOut.2.1 43 = .ok (.iload 6, 2) := by decide +kernel
theorem d_K_putOut_45 : decode md_K_putOut.2.1 45 = .ok (.aload_n 0, 1) := by decide +kernel
theorem d_K_putOut_46 : decode md_K_putOut.2.1 46 = .ok (.getfield 10, 3) := by decide +kernel
theorem d_K_putOut_49 : decode md_K_putOut.2.1 49 = .ok (.invokevirtual 92, 3) := by decide +kernel
theorem d_K_putOut_52 : decode md_K_putOut.2.1 52 = .ok (.if_icmp .ge 40, 3) := by decide +kernel
theorem d_K_putOut_55 : decode md_K_putOut.2.1 55 = .ok (.aload_n 0, 1) := by decide +kernel
theorem d_K_putOut_56 : decode md_K_putOut.2.1 56 = .ok (.getfield 35, 3) := by decide +kernel
theorem d_K_putOut_59 : decode md_K_putOut.2.1 59 = .ok (.iload 5, 2) := by decide +kernel
theorem d_K_putOut_61 : decode md_K_putOut.2.1 61 = .ok (.iconst 2, 1) := by decide +kernel
theorem d_K_putOut_62 : decode md_K_putOut.2.1 62 = .ok (.iload 6, 2) := by decide +kernel
theorem d_K_putOut_64 : decode md_K_putOut.2.1 64 = .ok (.iadd, 1) := by decide +kernel
theorem d_K_putOut_65 : decode md_K_putOut.2.1 65 = .ok (.aload_n 3, 1) := by decide +kernel
theorem d_K_putOut_66 : decode md_K_putOut.2.1 66 = .ok (.iload 4, 2) := by decide +kernel
theorem d_K_putOut_68 : decode md_K_putOut.2.1 68 = .ok (.aload_n 0, 1) := by decide +kernel
theorem d_K_putOut_69 : decode md_K_putOut.2.1 69 = .ok (.getfield 10, 3) := by decide +kernel
theorem d_K_putOut_72 : decode md_K_putOut.2.1 72 = .ok (.iload 6, 2) := by decide +kernel
theorem d_K_putOut_74 : decode md_K_putOut.2.1 74 = .ok (.invokevirtual 121, 3) := by decide +kernel
theorem d_K_putOut_77 : decode md_K_putOut.2.1 77 = .ok (.checkcast 103, 3) := by decide +kernel
theorem d_K_putOut_80 : decode md_K_putOut.2.1 80 = .ok (.invokevirtual 324, 3) := by decide +kernel
theorem d_K_putOut_83 : decode md_K_putOut.2.1 83 = .ok (.invokevirtual 287, 3) := by decide +kernel
theorem d_K_putOut_86 : decode md_K_putOut.2.1 86 = .ok (.iinc 6 1, 3) := by decide +kernel
theorem d_K_putOut_89 : decode md_K_putOut.2.1 89 = .ok (.goto (-46), 3) := by decide +kernel
theorem d_K_putOut_92 : decode md_K_putOut.2.1 92 = .ok (.return_, 1) := by decide +kernel
theorem d_T_addLine_0 : decode md_T_addLine.2.1 0 = .ok (.aload_n 0, 1) := by decide +kernel
theorem d_T_addLine_1 : decode md_T_addLine.2.1 1 = .ok (.getfield 9, 3) := by decide +kernel
theorem d_T_addLine_4 : decode md_T_addLine.2.1 4 = .ok (.istore_n 1, 1) := by decide +kernel
theorem d_T_addLine_5 : decode md_T_addLine.2.1 5 = .ok (.aload_n 0, 1) := by decide +kernel
theorem d_T_addLine_6 : decode md_T_addLine.2.1 6 = .ok (.dup, 1) := by decide +kernel
theorem d_T_addLine_7 : decode md_T_addLine.2.1 7 = .ok (.getfield 9, 3) := by decide +kernel
theorem d_T_addLine_10 : decode md_T_addLine.2.1 10 = .ok (.iconst 1, 1) := by decide +kernel
theorem d_T_addLine_11 : decode md_T_addLine.2.1 11 = .ok (.iadd, 1) := by decide +kernel
theorem d_T_addLine_12 : decode md_T_addLine.2.1 12 = .ok (.putfield 9, 3) := by decide +kernel
theorem d_T_addLine_15 : decode md_T_addLine.2.1 15 = .ok (.iload_n 1, 1) := by decide +kernel
theorem d_T_addLine_16 : decode md_T_addLine.2.1 16 = .ok (.ifCond .lt 15, 3) := by decide +kernel
theorem d_T_addLine_19 : decode md_T_addLine.2.1 19 = .ok (.iload_n 1, 1) := by decide +kernel
theorem d_T_addLine_20 : decode md_T_addLine.2.1 20 = .ok (.aload_n 0, 1) := by decide +kernel
theorem d_T_addLine_21 : decode md_T_addLine.2.1 21 = .ok (.getfield 15, 3) := by decide +kernel
theorem d_T_addLine_24 : decode md_T_addLine.2.1 24 = .ok (.if_icmp .ge 7, 3) := by decide +kernel
theorem d_T_addLine_27 : decode md_T_addLine.2.1 27 = .ok (.iload_n 1, 1) := by decide +kernel
theorem d_T_addLine_28 : decode md_T_addLine.2.1 28 = .ok (.goto 4, 3) := by decide +kernel
theorem d_T_addLine_31 : decode md_T_addLine.2.1 31 = .ok (.iconst (-1), 1) := by decide +kernel
theorem d_T_addLine_32 : decode md_T_addLine.2.1 32 = .ok (.ireturn, 1) := by decide +kernel
theorem d_T_set_0 : decode md_T_set.2.1 0 = .ok (.aload_n 0, 1) := by decide +kernel
theorem d_T_set_1 : decode md_T_set.2.1 1 = .ok (.getfield 21, 3) := by decide +kernel
theorem d_T_set_4 : decode md_T_set.2.1 4 = .ok (.iload_n 1, 1) := by decide +kernel
theorem d_T_set_5 : decode md_T_set.2.1 5 = .ok (.aload_n 0, 1) := by decide +kernel
theorem d_T_set_6 : decode md_T_set.2.1 6 = .ok (.getfield 18, 3) := by decide +kernel
theorem d_T_set_9 : decode md_T_set.2.1 9 = .ok (.imul, 1) := by decide +kernel
theorem d_T_set_10 : decode md_T_set.2.1 10 = .ok (.iload_n 2, 1) := by decide +kernel
theorem d_T_set_11 : decode md_T_set.2.1 11 = .ok (.iadd, 1) := by decide +kernel
theorem d_T_set_12 : decode md_T_set.2.1 12 = .ok (.lload_n 3, 1) := by decide +kernel
theorem d_T_set_13 : decode md_T_set.2.1 13 = .ok (.lastore, 1) := by decide +kernel
theorem d_T_set_14 : decode md_T_set.2.1 14 = .ok (.return_, 1) := by decide +kernel
theorem d_K_turnAway_0 : decode md_K_turnAway.2.1 0 = .ok (.iload_n 1, 1) := by decide +kernel
theorem d_K_turnAway_1 : decode md_K_turnAway.2.1 1 = .ok (.tableswitch 123 2 6 #[35, 48, 61, 82, 110], 35) := by decide +kernel
theorem d_K_turnAway_36 : decode md_K_turnAway.2.1 36 = .ok (.aload_n 0, 1) := by decide +kernel
theorem d_K_turnAway_37 : decode md_K_turnAway.2.1 37 = .ok (.lload_n 2, 1) := by decide +kernel
theorem d_K_turnAway_38 : decode md_K_turnAway.2.1 38 = .ok (.lload 4, 2) := by decide +kernel
theorem d_K_turnAway_40 : decode md_K_turnAway.2.1 40 = .ok (.lload 6, 2) := by decide +kernel
theorem d_K_turnAway_42 : decode md_K_turnAway.2.1 42 = .ok (.iconst (-1), 1) := by decide +kernel
theorem d_K_turnAway_43 : decode md_K_turnAway.2.1 43 = .ok (.invokevirtual 278, 3) := by decide +kernel
theorem d_K_turnAway_46 : decode md_K_turnAway.2.1 46 = .ok (.goto 78, 3) := by decide +kernel
theorem d_K_turnAway_49 : decode md_K_turnAway.2.1 49 = .ok (.aload_n 0, 1) := by decide +kernel
theorem d_K_turnAway_50 : decode md_K_turnAway.2.1 50 = .ok (.dup, 1) := by decide +kernel
theorem d_K_turnAway_51 : decode md_K_turnAway.2.1 51 = .ok (.getfield 60, 3) := by decide +kernel
theorem d_K_turnAway_54 : decode md_K_turnAway.2.1 54 = .ok (.iconst 1, 1) := by decide +kernel
theorem d_K_turnAway_55 : decode md_K_turnAway.2.1 55 = .ok (.iadd, 1) := by decide +kernel
theorem d_K_turnAway_56 : decode md_K_turnAway.2.1 56 = .ok (.putfield 60, 3) := by decide +kernel
theorem d_K_turnAway_59 : decode md_K_turnAway.2.1 59 = .ok (.goto 65, 3) := by decide +kernel
theorem d_K_turnAway_62 : decode md_K_turnAway.2.1 62 = .ok (.aload_n 0, 1) := by decide +kernel
theorem d_K_turnAway_63 : decode md_K_turnAway.2.1 63 = .ok (.dup, 1) := by decide +kernel
theorem d_K_turnAway_64 : decode md_K_turnAway.2.1 64 = .ok (.getfield 63, 3) := by decide +kernel
theorem d_K_turnAway_67 : decode md_K_turnAway.2.1 67 = .ok (.iconst 1, 1) := by decide +kernel
theorem d_K_turnAway_68 : decode md_K_turnAway.2.1 68 = .ok (.iadd, 1) := by decide +kernel
theorem d_K_turnAway_69 : decode md_K_turnAway.2.1 69 = .ok (.putfield 63, 3) := by decide +kernel
theorem d_K_turnAway_72 : decode md_K_turnAway.2.1 72 = .ok (.aload_n 0, 1) := by decide +kernel
theorem d_K_turnAway_73 : decode md_K_turnAway.2.1 73 = .ok (.getfield 22, 3) := by decide +kernel
theorem d_K_turnAway_76 : decode md_K_turnAway.2.1 76 = .ok (.lload_n 2, 1) := by decide +kernel
theorem d_K_turnAway_77 : decode md_K_turnAway.2.1 77 = .ok (.invokevirtual 282, 3) := by decide +kernel
theorem d_K_turnAway_80 : decode md_K_turnAway.2.1 80 = .ok (.goto 44, 3) := by decide +kernel
theorem d_K_turnAway_83 : decode md_K_turnAway.2.1 83 = .ok (.aload_n 0, 1) := by decide +kernel
theorem d_K_turnAway_84 : decode md_K_turnAway.2.1 84 = .ok (.dup, 1) := by decide +kernel
theorem d_K_turnAway_85 : decode md_K_turnAway.2.1 85 = .ok (.getfield 63, 3) := by decide +kernel
theorem d_K_turnAway_88 : decode md_K_turnAway.2.1 88 = .ok (.iconst 1, 1) := by decide +kernel
theorem d_K_turnAway_89 : decode md_K_turnAway.2.1 89 = .ok (.iadd, 1) := by decide +kernel
theorem d_K_turnAway_90 : decode md_K_turnAway.2.1 90 = .ok (.putfield 63, 3) := by decide +kernel
theorem d_K_turnAway_93 : decode md_K_turnAway.2.1 93 = .ok (.aload_n 0, 1) := by decide +kernel
theorem d_K_turnAway_94 : decode md_K_turnAway.2.1 94 = .ok (.lload_n 2, 1) := by decide +kernel
theorem d_K_turnAway_95 : decode md_K_turnAway.2.1 95 = .ok (.lload 4, 2) := by decide +kernel
theorem d_K_turnAway_97 : decode md_K_turnAway.2.1 97 = .ok (.lload 6, 2) := by decide +kernel
theorem d_K_turnAway_99 : decode md_K_turnAway.2.1 99 = .ok (.aload_n 0, 1) := by decide +kernel
theorem d_K_turnAway_100 : decode md_K_turnAway.2.1 100 = .ok (.lload 6, 2) := by decide +kernel
theorem d_K_turnAway_102 : decode md_K_turnAway.2.1 102 = .ok (.invokevirtual 275, 3) := by decide +kernel
theorem d_K_turnAway_105 : decode md_K_turnAway.2.1 105 = .ok (.invokevirtual 278, 3) := by decide +kernel
theorem d_K_turnAway_108 : decode md_K_turnAway.2.1 108 = .ok (.goto 16, 3) := by decide +kernel
theorem d_K_turnAway_111 : decode md_K_turnAway.2.1 111 = .ok (.aload_n 0, 1) := by decide +kernel
theorem d_K_turnAway_112 : decode md_K_turnAway.2.1 112 = .ok (.dup, 1) := by decide +kernel
theorem d_K_turnAway_113 : decode md_K_turnAway.2.1 113 = .ok (.getfield 63, 3) := by decide +kernel
theorem d_K_turnAway_116 : decode md_K_turnAway.2.1 116 = .ok (.iconst 1, 1) := by decide +kernel
theorem d_K_turnAway_117 : decode md_K_turnAway.2.1 117 = .ok (.iadd, 1) := by decide +kernel
theorem d_K_turnAway_118 : decode md_K_turnAway.2.1 118 = .ok (.putfield 63, 3) := by decide +kernel
theorem d_K_turnAway_121 : decode md_K_turnAway.2.1 121 = .ok (.goto 3, 3) := by decide +kernel
theorem d_K_turnAway_124 : decode md_K_turnAway.2.1 124 = .ok (.return_, 1) := by decide +kernel
theorem d_K_putAside_0 : decode md_K_putAside.2.1 0 = .ok (.aload_n 0, 1) := by decide +kernel
theorem d_K_putAside_1 : decode md_K_putAside.2.1 1 = .ok (.getfield 31, 3) := by decide +kernel
theorem d_K_putAside_4 : decode md_K_putAside.2.1 4 = .ok (.invokevirtual 284, 3) := by decide +kernel
theorem d_K_putAside_7 : decode md_K_putAside.2.1 7 = .ok (.istore 8, 2) := by decide +kernel
theorem d_K_putAside_9 : decode md_K_putAside.2.1 9 = .ok (.iload 8, 2) := by decide +kernel
theorem d_K_putAside_11 : decode md_K_putAside.2.1 11 = .ok (.iconst (-1), 1) := by decide +kernel
theorem d_K_putAside_12 : decode md_K_putAside.2.1 12 = .ok (.if_icmp .eq 50, 3) := by decide +kernel
theorem d_K_putAside_15 : decode md_K_putAside.2.1 15 = .ok (.aload_n 0, 1) := by decide +kernel
theorem d_K_putAside_16 : decode md_K_putAside.2.1 16 = .ok (.getfield 31, 3) := by decide +kernel
theorem d_K_putAside_19 : decode md_K_putAside.2.1 19 = .ok (.iload 8, 2) := by decide +kernel
theorem d_K_putAside_21 : decode md_K_putAside.2.1 21 = .ok (.iconst 0, 1) := by decide +kernel
theorem d_K_putAside_22 : decode md_K_putAside.2.1 22 = .ok (.lload_n 1, 1) := by decide +kernel
theorem d_K_putAside_23 : decode md_K_putAside.2.1 23 = .ok (.invokevirtual 287, 3) := by decide +kernel
theorem d_K_putAside_26 : decode md_K_putAside.2.1 26 = .ok (.aload_n 0, 1) := by decide +kernel
theorem d_K_putAside_27 : decode md_K_putAside.2.1 27 = .ok (.getfield 31, 3) := by decide +kernel
theorem d_K_putAside_30 : decode md_K_putAside.2.1 30 = .ok (.iload 8, 2) := by decide +kernel
theorem d_K_putAside_32 : decode md_K_putAside.2.1 32 = .ok (.iconst 1, 1) := by decide +kernel
theorem d_K_putAside_33 : decode md_K_putAside.2.1 33 = .ok (.lload_n 3, 1) := by decide +kernel
theorem d_K_putAside_34 : decode md_K_putAside.2.1 34 = .ok (.invokevirtual 287, 3) := by decide +kernel
theorem d_K_putAside_37 : decode md_K_putAside.2.1 37 = .ok (.aload_n 0, 1) := by decide +kernel
theorem d_K_putAside_38 : decode md_K_putAside.2.1 38 = .ok (.getfield 31, 3) := by decide +kernel
theorem d_K_putAside_41 : decode md_K_putAside.2.1 41 = .ok (.iload 8, 2) := by decide +kernel
theorem d_K_putAside_43 : decode md_K_putAside.2.1 43 = .ok (.iconst 2, 1) := by decide +kernel
theorem d_K_putAside_44 : decode md_K_putAside.2.1 44 = .ok (.lload 5, 2) := by decide +kernel
theorem d_K_putAside_46 : decode md_K_putAside.2.1 46 = .ok (.invokevirtual 287, 3) := by decide +kernel
theorem d_K_putAside_49 : decode md_K_putAside.2.1 49 = .ok (.aload_n 0, 1) := by decide +kernel
theorem d_K_putAside_50 : decode md_K_putAside.2.1 50 = .ok (.getfield 31, 3) := by decide +kernel
theorem d_K_putAside_53 : decode md_K_putAside.2.1 53 = .ok (.iload 8, 2) := by decide +kernel
theorem d_K_putAside_55 : decode md_K_putAside.2.1 55 = .ok (.iconst 3, 1) := by decide +kernel
theorem d_K_putAside_56 : decode md_K_putAside.2.1 56 = .ok (.iload 7, 2) := by decide +kernel
theorem d_K_putAside_58 : decode md_K_putAside.2.1 58 = .ok (.i2l, 1) := by decide +kernel
theorem d_K_putAside_59 : decode md_K_putAside.2.1 59 = .ok (.invokevirtual 287, 3) := by decide +kernel
theorem d_K_putAside_62 : decode md_K_putAside.2.1 62 = .ok (.return_, 1) := by decide +kernel
theorem d_S_add_0 : decode md_S_add.2.1 0 = .ok (.aload_n 0, 1) := by decide +kernel
theorem d_S_add_1 : decode md_S_add.2.1 1 = .ok (.getfield 15, 3) := by decide +kernel
theorem d_S_add_4 : decode md_S_add.2.1 4 = .ok (.sipush 512, 3) := by decide +kernel
theorem d_S_add_7 : decode md_S_add.2.1 7 = .ok (.if_icmp .ge 23, 3) := by decide +kernel
theorem d_S_add_10 : decode md_S_add.2.1 10 = .ok (.aload_n 0, 1) := by decide +kernel
theorem d_S_add_11 : decode md_S_add.2.1 11 = .ok (.getfield 9, 3) := by decide +kernel
theorem d_S_add_14 : decode md_S_add.2.1 14 = .ok (.aload_n 0, 1) := by decide +kernel
theorem d_S_add_15 : decode md_S_add.2.1 15 = .ok (.getfield 15, 3) := by decide +kernel
theorem d_S_add_18 : decode md_S_add.2.1 18 = .ok (.lload_n 1, 1) := by decide +kernel
theorem d_S_add_19 : decode md_S_add.2.1 19 = .ok (.lastore, 1) := by decide +kernel
theorem d_S_add_20 : decode md_S_add.2.1 20 = .ok (.aload_n 0, 1) := by decide +kernel
theorem d_S_add_21 : decode md_S_add.2.1 21 = .ok (.dup, 1) := by decide +kernel
theorem d_S_add_22 : decode md_S_add.2.1 22 = .ok (.getfield 15, 3) := by decide +kernel
theorem d_S_add_25 : decode md_S_add.2.1 25 = .ok (.iconst 1, 1) := by decide +kernel
theorem d_S_add_26 : decode md_S_add.2.1 26 = .ok (.iadd, 1) := by decide +kernel
theorem d_S_add_27 : decode md_S_add.2.1 27 = .ok (.putfield 15, 3) := by decide +kernel
theorem d_S_add_30 : decode md_S_add.2.1 30 = .ok (.return_, 1) := by decide +kernel
theorem d_K_resume_0 : decode md_K_resume.2.1 0 = .ok (.aload_n 0, 1) := by decide +kernel
theorem d_K_resume_1 : decode md_K_resume.2.1 1 = .ok (.getfield 22, 3) := by decide +kernel
theorem d_K_resume_4 : decode md_K_resume.2.1 4 = .ok (.lload_n 1, 1) := by decide +kernel
theorem d_K_resume_5 : decode md_K_resume.2.1 5 = .ok (.invokevirtual 154, 3) := by decide +kernel
theorem d_K_resume_8 : decode md_K_resume.2.1 8 = .ok (.ifCond .ne 13, 3) := by decide +kernel
theorem d_K_resume_11 : decode md_K_resume.2.1 11 = .ok (.new 96, 3) := by decide +kernel
theorem d_K_resume_14 : decode md_K_resume.2.1 14 = .ok (.dup, 1) := by decide +kernel
theorem d_K_resume_15 : decode md_K_resume.2.1 15 = .ok (.ldc 185, 2) := by decide +kernel
theorem d_K_resume_17 : decode md_K_resume.2.1 17 = .ok (.invokespecial 100, 3) := by decide +kernel
theorem d_K_resume_20 : decode md_K_resume.2.1 20 = .ok (.athrow, 1) := by decide +kernel
theorem d_K_resume_21 : decode md_K_resume.2.1 21 = .ok (.aload_n 0, 1) := by decide +kernel
theorem d_K_resume_22 : decode md_K_resume.2.1 22 = .ok (.getfield 22, 3) := by decide +kernel
theorem d_K_resume_25 : decode md_K_resume.2.1 25 = .ok (.lload_n 1, 1) := by decide +kernel
theorem d_K_resume_26 : decode md_K_resume.2.1 26 = .ok (.invokevirtual 187, 3) := by decide +kernel
theorem d_K_resume_29 : decode md_K_resume.2.1 29 = .ok (.return_, 1) := by decide +kernel
theorem d_S_remove_0 : decode md_S_remove.2.1 0 = .ok (.aload_n 0, 1) := by decide +kernel
theorem d_S_remove_1 : decode md_S_remove.2.1 1 = .ok (.lload_n 1, 1) := by decide +kernel
theorem d_S_remove_2 : decode md_S_remove.2.1 2 = .ok (.invokevirtual 19, 3) := by decide +kernel
theorem d_S_remove_5 : decode md_S_remove.2.1 5 = .ok (.istore_n 3, 1) := by decide +kernel
theorem d_S_remove_6 : decode md_S_remove.2.1 6 = .ok (.iload_n 3, 1) := by decide +kernel
theorem d_S_remove_7 : decode md_S_remove.2.1 7 = .ok (.iconst (-1), 1) := by decide +kernel
theorem d_S_remove_8 : decode md_S_remove.2.1 8 = .ok (.if_icmp .eq 28, 3) := by decide +kernel
theorem d_S_remove_11 : decode md_S_remove.2.1 11 = .ok (.aload_n 0, 1) := by decide +kernel
theorem d_S_remove_12 : decode md_S_remove.2.1 12 = .ok (.dup, 1) := by decide +kernel
theorem d_S_remove_13 : decode md_S_remove.2.1 13 = .ok (.getfield 15, 3) := by decide +kernel
theorem d_S_remove_16 : decode md_S_remove.2.1 16 = .ok (.iconst 1, 1) := by decide +kernel
theorem d_S_remove_17 : decode md_S_remove.2.1 17 = .ok (.isub, 1) := by decide +kernel
theorem d_S_remove_18 : decode md_S_remove.2.1 18 = .ok (.putfield 15, 3) := by decide +kernel
theorem d_S_remove_21 : decode md_S_remove.2.1 21 = .ok (.aload_n 0, 1) := by decide +kernel
theorem d_S_remove_22 : decode md_S_remove.2.1 22 = .ok (.getfield 9, 3) := by decide +kernel
theorem d_S_remove_25 : decode md_S_remove.2.1 25 = .ok (.iload_n 3, 1) := by decide +kernel
theorem d_S_remove_26 : decode md_S_remove.2.1 26 = .ok (.aload_n 0, 1) := by decide +kernel
theorem d_S_remove_27 : decode md_S_remove.2.1 27 = .ok (.getfield 9, 3) := by decide +kernel
theorem d_S_remove_30 : decode md_S_remove.2.1 30 = .ok (.aload_n 0, 1) := by decide +kernel
theorem d_S_remove_31 : decode md_S_remove.2.1 31 = .ok (.getfield 15, 3) := by decide +kernel
theorem d_S_remove_34 : decode md_S_remove.2.1 34 = .ok (.laload, 1) := by decide +kernel
theorem d_S_remove_35 : decode md_S_remove.2.1 35 = .ok (.lastore, 1) := by decide +kernel
theorem d_S_remove_36 : decode md_S_remove.2.1 36 = .ok (.return_, 1) := by decide +kernel
theorem d_K_state_0 : decode md_K_state.2.1 0 = .ok (.aload_n 0, 1) := by decide +kernel
theorem d_K_state_1 : decode md_K_state.2.1 1 = .ok (.iload_n 3, 1) := by decide +kernel
theorem d_K_state_2 : decode md_K_state.2.1 2 = .ok (.invokevirtual 112, 3) := by decide +kernel
theorem d_K_state_5 : decode md_K_state.2.1 5 = .ok (.ifCond .ne 13, 3) := by decide +kernel
theorem d_K_state_8 : decode md_K_state.2.1 8 = .ok (.new 116, 3) := by decide +kernel
theorem d_K_state_11 : decode md_K_state.2.1 11 = .ok (.dup, 1) := by decide +kernel
theorem d_K_state_12 : decode md_K_state.2.1 12 = .ok (.ldc 118, 2) := by decide +kernel
theorem d_K_state_14 : decode md_K_state.2.1 14 = .ok (.invokespecial 120, 3) := by decide +kernel
theorem d_K_state_17 : decode md_K_state.2.1 17 = .ok (.athrow, 1) := by decide +kernel
theorem d_K_state_18 : decode md_K_state.2.1 18 = .ok (.aload_n 0, 1) := by decide +kernel
theorem d_K_state_19 : decode md_K_state.2.1 19 = .ok (.lload_n 1, 1) := by decide +kernel
theorem d_K_state_20 : decode md_K_state.2.1 20 = .ok (.invokevirtual 190, 3) := by decide +kernel
theorem d_K_state_23 : decode md_K_state.2.1 23 = .ok (.istore 4, 2) := by decide +kernel
theorem d_K_state_25 : decode md_K_state.2.1 25 = .ok (.iload 4, 2) := by decide +kernel
theorem d_K_state_27 : decode md_K_state.2.1 27 = .ok (.ifCond .ge 13, 3) := by decide +kernel
theorem d_K_state_30 : decode md_K_state.2.1 30 = .ok (.new 116, 3) := by decide +kernel
theorem d_K_state_33 : decode md_K_state.2.1 33 = .ok (.dup, 1) := by decide +kernel
theorem d_K_state_34 : decode md_K_state.2.1 34 = .ok (.ldc 194, 2) := by decide +kernel
theorem d_K_state_36 : decode md_K_state.2.1 36 = .ok (.invokespecial 120, 3) := by decide +kernel
theorem d_K_state_39 : decode md_K_state.2.1 39 = .ok (.athrow, 1) := by decide +kernel
theorem d_K_state_40 : decode md_K_state.2.1 40 = .ok (.aload_n 0, 1) := by decide +kernel
theorem d_K_state_41 : decode md_K_state.2.1 41 = .ok (.getfield 16, 3) := by decide +kernel
theorem d_K_state_44 : decode md_K_state.2.1 44 = .ok (.iload 4, 2) := by decide +kernel
theorem d_K_state_46 : decode md_K_state.2.1 46 = .ok (.invokevirtual 121, 3) := by decide +kernel
theorem d_K_state_49 : decode md_K_state.2.1 49 = .ok (.checkcast 196, 3) := by decide +kernel
theorem d_K_state_52 : decode md_K_state.2.1 52 = .ok (.getfield 198, 3) := by decide +kernel
theorem d_K_state_55 : decode md_K_state.2.1 55 = .ok (.iload_n 3, 1) := by decide +kernel
theorem d_K_state_56 : decode md_K_state.2.1 56 = .ok (.laload, 1) := by decide +kernel
theorem d_K_state_57 : decode md_K_state.2.1 57 = .ok (.lreturn, 1) := by decide +kernel
theorem d_K_key_0 : decode md_K_key.2.1 0 = .ok (.iload_n 3, 1) := by decide +kernel
theorem d_K_key_1 : decode md_K_key.2.1 1 = .ok (.ifCond .lt 8, 3) := by decide +kernel
theorem d_K_key_4 : decode md_K_key.2.1 4 = .ok (.iload_n 3, 1) := by decide +kernel
theorem d_K_key_5 : decode md_K_key.2.1 5 = .ok (.iconst 2, 1) := by decide +kernel
theorem d_K_key_6 : decode md_K_key.2.1 6 = .ok (.if_icmp .le 13, 3) := by decide +kernel
theorem d_K_key_9 : decode md_K_key.2.1 9 = .ok (.new 85, 3) := by decide +kernel
theorem d_K_key_12 : decode md_K_key.2.1 12 = .ok (.dup, 1) := by decide +kernel
theorem d_K_key_13 : decode md_K_key.2.1 13 = .ok (.ldc 202, 2) := by decide +kernel
theorem d_K_key_15 : decode md_K_key.2.1 15 = .ok (.invokespecial 89, 3) := by decide +kernel
theorem d_K_key_18 : decode md_K_key.2.1 18 = .ok (.athrow, 1) := by decide +kernel
theorem d_K_key_19 : decode md_K_key.2.1 19 = .ok (.iload_n 3, 1) := by decide +kernel
theorem d_K_key_20 : decode md_K_key.2.1 20 = .ok (.iconst 2, 1) := by decide +kernel
theorem d_K_key_21 : decode md_K_key.2.1 21 = .ok (.if_icmp .ne 20, 3) := by decide +kernel
theorem d_K_key_24 : decode md_K_key.2.1 24 = .ok (.aload_n 0, 1) := by decide +kernel
theorem d_K_key_25 : decode md_K_key.2.1 25 = .ok (.getfield 22, 3) := by decide +kernel
theorem d_K_key_28 : decode md_K_key.2.1 28 = .ok (.lload_n 1, 1) := by decide +kernel
theorem d_K_key_29 : decode md_K_key.2.1 29 = .ok (.invokevirtual 154, 3) := by decide +kernel
theorem d_K_key_32 : decode md_K_key.2.1 32 = .ok (.ifCond .eq 7, 3) := by decide +kernel
theorem d_K_key_35 : decode md_K_key.2.1 35 = .ok (.iconst 1, 1) := by decide +kernel
theorem d_K_key_36 : decode md_K_key.2.1 36 = .ok (.goto 4, 3) := by decide +kernel
theorem d_K_key_39 : decode md_K_key.2.1 39 = .ok (.iconst 0, 1) := by decide +kernel
theorem d_K_key_40 : decode md_K_key.2.1 40 = .ok (.ireturn, 1) := by decide +kernel
theorem d_K_key_41 : decode md_K_key.2.1 41 = .ok (.aload_n 0, 1) := by decide +kernel
theorem d_K_key_42 : decode md_K_key.2.1 42 = .ok (.lload_n 1, 1) := by decide +kernel
theorem d_K_key_43 : decode md_K_key.2.1 43 = .ok (.invokevirtual 190, 3) := by decide +kernel
theorem d_K_key_46 : decode md_K_key.2.1 46 = .ok (.istore 4, 2) := by decide +kernel
theorem d_K_key_48 : decode md_K_key.2.1 48 = .ok (.iload 4, 2) := by decide +kernel
theorem d_K_key_50 : decode md_K_key.2.1 50 = .ok (.ifCond .ge 5, 3) := by decide +kernel
theorem d_K_key_53 : decode md_K_key.2.1 53 = .ok (.iconst 0, 1) := by decide +kernel
theorem d_K_key_54 : decode md_K_key.2.1 54 = .ok (.ireturn, 1) := by decide +kernel
theorem d_K_key_55 : decode md_K_key.2.1 55 = .ok (.iload_n 3, 1) := by decide +kernel
theorem d_K_key_56 : decode md_K_key.2.1 56 = .ok (.ifCond .ne 21, 3) := by decide +kernel
theorem d_K_key_59 : decode md_K_key.2.1 59 = .ok (.aload_n 0, 1) := by decide +kernel
theorem d_K_key_60 : decode md_K_key.2.1 60 = .ok (.getfield 16, 3) := by decide +kernel
theorem d_K_key_63 : decode md_K_key.2.1 63 = .ok (.iload 4, 2) := by decide +kernel
theorem d_K_key_65 : decode md_K_key.2.1 65 = .ok (.invokevirtual 121, 3) := by decide +kernel
theorem d_K_key_68 : decode md_K_key.2.1 68 = .ok (.checkcast 196, 3) := by decide +kernel
theorem d_K_key_71 : decode md_K_key.2.1 71 = .ok (.getfield 204, 3) := by decide +kernel
theorem d_K_key_74 : decode md_K_key.2.1 74 = .ok (.goto 18, 3) := by decide +kernel
theorem d_K_key_77 : decode md_K_key.2.1 77 = .ok (.aload_n 0, 1) := by decide +kernel
theorem d_K_key_78 : decode md_K_key.2.1 78 = .ok (.getfield 16, 3) := by decide +kernel
theorem d_K_key_81 : decode md_K_key.2.1 81 = .ok (.iload 4, 2) := by decide +kernel
theorem d_K_key_83 : decode md_K_key.2.1 83 = .ok (.invokevirtual 121, 3) := by decide +kernel
theorem d_K_key_86 : decode md_K_key.2.1 86 = .ok (.checkcast 196, 3) := by decide +kernel
theorem d_K_key_89 : decode md_K_key.2.1 89 = .ok (.getfield 207, 3) := by decide +kernel
theorem d_K_key_92 : decode md_K_key.2.1 92 = .ok (.ireturn, 1) := by decide +kernel
theorem d_K_rowOf_0 : decode md_K_rowOf.2.1 0 = .ok (.aload_n 0, 1) := by decide +kernel
theorem d_K_rowOf_1 : decode md_K_rowOf.2.1 1 = .ok (.lload_n 1, 1) := by decide +kernel
theorem d_K_rowOf_2 : decode md_K_rowOf.2.1 2 = .ok (.invokevirtual 190, 3) := by decide +kernel
theorem d_K_rowOf_5 : decode md_K_rowOf.2.1 5 = .ok (.istore 5, 2) := by decide +kernel
theorem d_K_rowOf_7 : decode md_K_rowOf.2.1 7 = .ok (.iload 5, 2) := by decide +kernel
theorem d_K_rowOf_9 : decode md_K_rowOf.2.1 9 = .ok (.ifCond .ge 13, 3) := by decide +kernel
theorem d_K_rowOf_12 : decode md_K_rowOf.2.1 12 = .ok (.new 116, 3) := by decide +kernel
theorem d_K_rowOf_15 : decode md_K_rowOf.2.1 15 = .ok (.dup, 1) := by decide +kernel
theorem d_K_rowOf_16 : decode md_K_rowOf.2.1 16 = .ok (.ldc 194, 2) := by decide +kernel
theorem d_K_rowOf_18 : decode md_K_rowOf.2.1 18 = .ok (.invokespecial 120, 3) := by decide +kernel
theorem d_K_rowOf_21 : decode md_K_rowOf.2.1 21 = .ok (.athrow, 1) := by decide +kernel
theorem d_K_rowOf_22 : decode md_K_rowOf.2.1 22 = .ok (.aload_n 0, 1) := by decide +kernel
theorem d_K_rowOf_23 : decode md_K_rowOf.2.1 23 = .ok (.getfield 16, 3) := by decide +kernel
theorem d_K_rowOf_26 : decode md_K_rowOf.2.1 26 = .ok (.iload 5, 2) := by decide +kernel
theorem d_K_rowOf_28 : decode md_K_rowOf.2.1 28 = .ok (.invokevirtual 121, 3) := by decide +kernel
theorem d_K_rowOf_31 : decode md_K_rowOf.2.1 31 = .ok (.checkcast 196, 3) := by decide +kernel
theorem d_K_rowOf_34 : decode md_K_rowOf.2.1 34 = .ok (.astore 6, 2) := by decide +kernel
theorem d_K_rowOf_36 : decode md_K_rowOf.2.1 36 = .ok (.iload_n 3, 1) := by decide +kernel
theorem d_K_rowOf_37 : decode md_K_rowOf.2.1 37 = .ok (.ifCond .lt 12, 3) := by decide +kernel
theorem d_K_rowOf_40 : decode md_K_rowOf.2.1 40 = .ok (.iload_n 3, 1) := by decide +kernel
theorem d_K_rowOf_41 : decode md_K_rowOf.2.1 41 = .ok (.aload 6, 2) := by decide +kernel
theorem d_K_rowOf_43 : decode md_K_rowOf.2.1 43 = .ok (.getfield 204, 3) := by decide +kernel
theorem d_K_rowOf_46 : decode md_K_rowOf.2.1 46 = .ok (.if_icmp .lt 13, 3) := by decide +kernel
theorem d_K_rowOf_49 : decode md_K_rowOf.2.1 49 = .ok (.new 116, 3) := by decide +kernel
theorem d_K_rowOf_52 : decode md_K_rowOf.2.1 52 = .ok (.dup, 1) := by decide +kernel
theorem d_K_rowOf_53 : decode md_K_rowOf.2.1 53 = .ok (.ldc 210, 2) := by decide +kernel
theorem d_K_rowOf_55 : decode md_K_rowOf.2.1 55 = .ok (.invokespecial 120, 3) := by decide +kernel
theorem d_K_rowOf_58 : decode md_K_rowOf.2.1 58 = .ok (.athrow, 1) := by decide +kernel
theorem d_K_rowOf_59 : decode md_K_rowOf.2.1 59 = .ok (.iload 4, 2) := by decide +kernel
theorem d_K_rowOf_61 : decode md_K_rowOf.2.1 61 = .ok (.ifCond .lt 9, 3) := by decide +kernel
theorem d_K_rowOf_64 : decode md_K_rowOf.2.1 64 = .ok (.iload 4, 2) := by decide +kernel
theorem d_K_rowOf_66 : decode md_K_rowOf.2.1 66 = .ok (.iconst 1, 1) := by decide +kernel
theorem d_K_rowOf_67 : decode md_K_rowOf.2.1 67 = .ok (.if_icmp .le 13, 3) := by decide +kernel
theorem d_K_rowOf_70 : decode md_K_rowOf.2.1 70 = .ok (.new 116, 3) := by decide +kernel
theorem d_K_rowOf_73 : decode md_K_rowOf.2.1 73 = .ok (.dup, 1) := by decide +kernel
theorem d_K_rowOf_74 : decode md_K_rowOf.2.1 74 = .ok (.ldc 212, 2) := by decide +kernel
theorem d_K_rowOf_76 : decode md_K_rowOf.2.1 76 = .ok (.invokespecial 120, 3) := by decide +kernel
theorem d_K_rowOf_79 : decode md_K_rowOf.2.1 79 = .ok (.athrow, 1) := by decide +kernel
theorem d_K_rowOf_80 : decode md_K_rowOf.2.1 80 = .ok (.iload 4, 2) := by decide +kernel
theorem d_K_rowOf_82 : decode md_K_rowOf.2.1 82 = .ok (.ifCond .ne 13, 3) := by decide +kernel
theorem d_K_rowOf_85 : decode md_K_rowOf.2.1 85 = .ok (.aload 6, 2) := by decide +kernel
theorem d_K_rowOf_87 : decode md_K_rowOf.2.1 87 = .ok (.getfield 214, 3) := by decide +kernel
theorem d_K_rowOf_90 : decode md_K_rowOf.2.1 90 = .ok (.iload_n 3, 1) := by decide +kernel
theorem d_K_rowOf_91 : decode md_K_rowOf.2.1 91 = .ok (.laload, 1) := by decide +kernel
theorem d_K_rowOf_92 : decode md_K_rowOf.2.1 92 = .ok (.goto 10, 3) := by decide +kernel
theorem d_K_rowOf_95 : decode md_K_rowOf.2.1 95 = .ok (.aload 6, 2) := by decide +kernel
theorem d_K_rowOf_97 : decode md_K_rowOf.2.1 97 = .ok (.getfield 217, 3) := by decide +kernel
theorem d_K_rowOf_100 : decode md_K_rowOf.2.1 100 = .ok (.iload_n 3, 1) := by decide +kernel
theorem d_K_rowOf_101 : decode md_K_rowOf.2.1 101 = .ok (.laload, 1) := by decide +kernel
theorem d_K_rowOf_102 : decode md_K_rowOf.2.1 102 = .ok (.lreturn, 1) := by decide +kernel
theorem d_K_aside_0 : decode md_K_aside.2.1 0 = .ok (.aload_n 0, 1) := by decide +kernel
theorem d_K_aside_1 : decode md_K_aside.2.1 1 = .ok (.getfield 31, 3) := by decide +kernel
theorem d_K_aside_4 : decode md_K_aside.2.1 4 = .ok (.iload_n 1, 1) := by decide +kernel
theorem d_K_aside_5 : decode md_K_aside.2.1 5 = .ok (.invokevirtual 220, 3) := by decide +kernel
theorem d_K_aside_8 : decode md_K_aside.2.1 8 = .ok (.ifCond .ne 13, 3) := by decide +kernel
theorem d_K_aside_11 : decode md_K_aside.2.1 11 = .ok (.new 116, 3) := by decide +kernel
theorem d_K_aside_14 : decode md_K_aside.2.1 14 = .ok (.dup, 1) := by decide +kernel
theorem d_K_aside_15 : decode md_K_aside.2.1 15 = .ok (.ldc 223, 2) := by decide +kernel
theorem d_K_aside_17 : decode md_K_aside.2.1 17 = .ok (.invokespecial 120, 3) := by decide +kernel
theorem d_K_aside_20 : decode md_K_aside.2.1 20 = .ok (.athrow, 1) := by decide +kernel
theorem d_K_aside_21 : decode md_K_aside.2.1 21 = .ok (.iload_n 2, 1) := by decide +kernel
theorem d_K_aside_22 : decode md_K_aside.2.1 22 = .ok (.ifCond .lt 8, 3) := by decide +kernel
theorem d_K_aside_25 : decode md_K_aside.2.1 25 = .ok (.iload_n 2, 1) := by decide +kernel
theorem d_K_aside_26 : decode md_K_aside.2.1 26 = .ok (.iconst 4, 1) := by decide +kernel
theorem d_K_aside_27 : decode md_K_aside.2.1 27 = .ok (.if_icmp .lt 13, 3) := by decide +kernel
theorem d_K_aside_30 : decode md_K_aside.2.1 30 = .ok (.new 116, 3) := by decide +kernel
theorem d_K_aside_33 : decode md_K_aside.2.1 33 = .ok (.dup, 1) := by decide +kernel
theorem d_K_aside_34 : decode md_K_aside.2.1 34 = .ok (.ldc 225, 2) := by decide +kernel
theorem d_K_aside_36 : decode md_K_aside.2.1 36 = .ok (.invokespecial 120, 3) := by decide +kernel
theorem d_K_aside_39 : decode md_K_aside.2.1 39 = .ok (.athrow, 1) := by decide +kernel
theorem d_K_aside_40 : decode md_K_aside.2.1 40 = .ok (.aload_n 0, 1) := by decide +kernel
theorem d_K_aside_41 : decode md_K_aside.2.1 41 = .ok (.getfield 31, 3) := by decide +kernel
theorem d_K_aside_44 : decode md_K_aside.2.1 44 = .ok (.iload_n 1, 1) := by decide +kernel
theorem d_K_aside_45 : decode md_K_aside.2.1 45 = .ok (.iload_n 2, 1) := by decide +kernel
theorem d_K_aside_46 : decode md_K_aside.2.1 46 = .ok (.invokevirtual 227, 3) := by decide +kernel
theorem d_K_aside_49 : decode md_K_aside.2.1 49 = .ok (.lreturn, 1) := by decide +kernel
theorem d_T_keeps_0 : decode md_T_keeps.2.1 0 = .ok (.iload_n 1, 1) := by decide +kernel
theorem d_T_keeps_1 : decode md_T_keeps.2.1 1 = .ok (.ifCond .lt 23, 3) := by decide +kernel
theorem d_T_keeps_4 : decode md_T_keeps.2.1 4 = .ok (.iload_n 1, 1) := by decide +kernel
theorem d_T_keeps_5 : decode md_T_keeps.2.1 5 = .ok (.aload_n 0, 1) := by decide +kernel
theorem d_T_keeps_6 : decode md_T_keeps.2.1 6 = .ok (.getfield 9, 3) := by decide +kernel
end
section
theorem d_T_keeps_9 : decode md_T_keeps.2.1 9 = .ok (.if_icmp .ge 15, 3) := by decide +kernel
theorem d_T_keeps_12 : decode md_T_keeps.2.1 12 = .ok (.iload_n 1, 1) := by decide +kernel
theorem d_T_keeps_13 : decode md_T_keeps.2.1 13 = .ok (.aload_n 0, 1) := by decide +kernel
theorem d_T_keeps_14 : decode md_T_keeps.2.1 14 = .ok (.getfield 15, 3) := by decide +kernel
theorem d_T_keeps_17 : decode md_T_keeps.2.1 17 = .ok (.if_icmp .ge 7, 3) := by decide +kernel
theorem d_T_keeps_20 : decode md_T_keeps.2.1 20 = .ok (.iconst 1, 1) := by decide +kernel
theorem d_T_keeps_21 : decode md_T_keeps.2.1 21 = .ok (.goto 4, 3) := by decide +kernel
theorem d_T_keeps_24 : decode md_T_keeps.2.1 24 = .ok (.iconst 0, 1) := by decide +kernel
theorem d_T_keeps_25 : decode md_T_keeps.2.1 25 = .ok (.ireturn, 1) := by decide +kernel
theorem d_T_cell_0 : decode md_T_cell.2.1 0 = .ok (.aload_n 0, 1) := by decide +kernel
theorem d_T_cell_1 : decode md_T_cell.2.1 1 = .ok (.getfield 21, 3) := by decide +kernel
theorem d_T_cell_4 : decode md_T_cell.2.1 4 = .ok (.iload_n 1, 1) := by decide +kernel
theorem d_T_cell_5 : decode md_T_cell.2.1 5 = .ok (.aload_n 0, 1) := by decide +kernel
theorem d_T_cell_6 : decode md_T_cell.2.1 6 = .ok (.getfield 18, 3) := by decide +kernel
theorem d_T_cell_9 : decode md_T_cell.2.1 9 = .ok (.imul, 1) := by decide +kernel
theorem d_T_cell_10 : decode md_T_cell.2.1 10 = .ok (.iload_n 2, 1) := by decide +kernel
theorem d_T_cell_11 : decode md_T_cell.2.1 11 = .ok (.iadd, 1) := by decide +kernel
theorem d_T_cell_12 : decode md_T_cell.2.1 12 = .ok (.laload, 1) := by decide +kernel
theorem d_T_cell_13 : decode md_T_cell.2.1 13 = .ok (.lreturn, 1) := by decide +kernel
theorem d_K_output_0 : decode md_K_output.2.1 0 = .ok (.aload_n 0, 1) := by decide +kernel
theorem d_K_output_1 : decode md_K_output.2.1 1 = .ok (.getfield 35, 3) := by decide +kernel
theorem d_K_output_4 : decode md_K_output.2.1 4 = .ok (.iload_n 1, 1) := by decide +kernel
theorem d_K_output_5 : decode md_K_output.2.1 5 = .ok (.invokevirtual 220, 3) := by decide +kernel
theorem d_K_output_8 : decode md_K_output.2.1 8 = .ok (.ifCond .ne 13, 3) := by decide +kernel
theorem d_K_output_11 : decode md_K_output.2.1 11 = .ok (.new 116, 3) := by decide +kernel
theorem d_K_output_14 : decode md_K_output.2.1 14 = .ok (.dup, 1) := by decide +kernel
theorem d_K_output_15 : decode md_K_output.2.1 15 = .ok (.ldc 231, 2) := by decide +kernel
theorem d_K_output_17 : decode md_K_output.2.1 17 = .ok (.invokespecial 120, 3) := by decide +kernel
theorem d_K_output_20 : decode md_K_output.2.1 20 = .ok (.athrow, 1) := by decide +kernel
theorem d_K_output_21 : decode md_K_output.2.1 21 = .ok (.iload_n 2, 1) := by decide +kernel
theorem d_K_output_22 : decode md_K_output.2.1 22 = .ok (.ifCond .lt 16, 3) := by decide +kernel
theorem d_K_output_25 : decode md_K_output.2.1 25 = .ok (.iload_n 2, 1) := by decide +kernel
theorem d_K_output_26 : decode md_K_output.2.1 26 = .ok (.iconst 2, 1) := by decide +kernel
theorem d_K_output_27 : decode md_K_output.2.1 27 = .ok (.aload_n 0, 1) := by decide +kernel
theorem d_K_output_28 : decode md_K_output.2.1 28 = .ok (.getfield 10, 3) := by decide +kernel
theorem d_K_output_31 : decode md_K_output.2.1 31 = .ok (.invokevirtual 92, 3) := by decide +kernel
theorem d_K_output_34 : decode md_K_output.2.1 34 = .ok (.iadd, 1) := by decide +kernel
theorem d_K_output_35 : decode md_K_output.2.1 35 = .ok (.if_icmp .lt 13, 3) := by decide +kernel
theorem d_K_output_38 : decode md_K_output.2.1 38 = .ok (.new 116, 3) := by decide +kernel
theorem d_K_output_41 : decode md_K_output.2.1 41 = .ok (.dup, 1) := by decide +kernel
theorem d_K_output_42 : decode md_K_output.2.1 42 = .ok (.ldc 233, 2) := by decide +kernel
theorem d_K_output_44 : decode md_K_output.2.1 44 = .ok (.invokespecial 120, 3) := by decide +kernel
theorem d_K_output_47 : decode md_K_output.2.1 47 = .ok (.athrow, 1) := by decide +kernel
theorem d_K_output_48 : decode md_K_output.2.1 48 = .ok (.aload_n 0, 1) := by decide +kernel
theorem d_K_output_49 : decode md_K_output.2.1 49 = .ok (.getfield 35, 3) := by decide +kernel
theorem d_K_output_52 : decode md_K_output.2.1 52 = .ok (.iload_n 1, 1) := by decide +kernel
theorem d_K_output_53 : decode md_K_output.2.1 53 = .ok (.iload_n 2, 1) := by decide +kernel
theorem d_K_output_54 : decode md_K_output.2.1 54 = .ok (.invokevirtual 227, 3) := by decide +kernel
theorem d_K_output_57 : decode md_K_output.2.1 57 = .ok (.lreturn, 1) := by decide +kernel
theorem d_K_watermark_0 : decode md_K_watermark.2.1 0 = .ok (.aload_n 0, 1) := by decide +kernel
theorem d_K_watermark_1 : decode md_K_watermark.2.1 1 = .ok (.invokevirtual 235, 3) := by decide +kernel
theorem d_K_watermark_4 : decode md_K_watermark.2.1 4 = .ok (.ifCond .ne 13, 3) := by decide +kernel
theorem d_K_watermark_7 : decode md_K_watermark.2.1 7 = .ok (.new 96, 3) := by decide +kernel
theorem d_K_watermark_10 : decode md_K_watermark.2.1 10 = .ok (.dup, 1) := by decide +kernel
theorem d_K_watermark_11 : decode md_K_watermark.2.1 11 = .ok (.ldc 238, 2) := by decide +kernel
theorem d_K_watermark_13 : decode md_K_watermark.2.1 13 = .ok (.invokespecial 100, 3) := by decide +kernel
theorem d_K_watermark_16 : decode md_K_watermark.2.1 16 = .ok (.athrow, 1) := by decide +kernel
theorem d_K_watermark_17 : decode md_K_watermark.2.1 17 = .ok (.aload_n 0, 1) := by decide +kernel
theorem d_K_watermark_18 : decode md_K_watermark.2.1 18 = .ok (.invokevirtual 240, 3) := by decide +kernel
theorem d_K_watermark_21 : decode md_K_watermark.2.1 21 = .ok (.lreturn, 1) := by decide +kernel
theorem d_K_told_0 : decode md_K_told.2.1 0 = .ok (.iload_n 1, 1) := by decide +kernel
theorem d_K_told_1 : decode md_K_told.2.1 1 = .ok (.tableswitch 108 0 8 #[51, 59, 67, 75, 83, 88, 93, 98, 103], 51) := by decide +kernel
theorem d_K_told_52 : decode md_K_told.2.1 52 = .ok (.aload_n 0, 1) := by decide +kernel
theorem d_K_told_53 : decode md_K_told.2.1 53 = .ok (.getfield 10, 3) := by decide +kernel
theorem d_K_told_56 : decode md_K_told.2.1 56 = .ok (.invokevirtual 92, 3) := by decide +kernel
theorem d_K_told_59 : decode md_K_told.2.1 59 = .ok (.ireturn, 1) := by decide +kernel
theorem d_K_told_60 : decode md_K_told.2.1 60 = .ok (.aload_n 0, 1) := by decide +kernel
theorem d_K_told_61 : decode md_K_told.2.1 61 = .ok (.getfield 16, 3) := by decide +kernel
theorem d_K_told_64 : decode md_K_told.2.1 64 = .ok (.invokevirtual 92, 3) := by decide +kernel
theorem d_K_told_67 : decode md_K_told.2.1 67 = .ok (.ireturn, 1) := by decide +kernel
theorem d_K_told_68 : decode md_K_told.2.1 68 = .ok (.aload_n 0, 1) := by decide +kernel
theorem d_K_told_69 : decode md_K_told.2.1 69 = .ok (.getfield 31, 3) := by decide +kernel
theorem d_K_told_72 : decode md_K_told.2.1 72 = .ok (.getfield 244, 3) := by decide +kernel
theorem d_K_told_75 : decode md_K_told.2.1 75 = .ok (.ireturn, 1) := by decide +kernel
theorem d_K_told_76 : decode md_K_told.2.1 76 = .ok (.aload_n 0, 1) := by decide +kernel
theorem d_K_told_77 : decode md_K_told.2.1 77 = .ok (.getfield 35, 3) := by decide +kernel
theorem d_K_told_80 : decode md_K_told.2.1 80 = .ok (.getfield 244, 3) := by decide +kernel
theorem d_K_told_83 : decode md_K_told.2.1 83 = .ok (.ireturn, 1) := by decide +kernel
theorem d_K_told_84 : decode md_K_told.2.1 84 = .ok (.aload_n 0, 1) := by decide +kernel
theorem d_K_told_85 : decode md_K_told.2.1 85 = .ok (.getfield 54, 3) := by decide +kernel
theorem d_K_told_88 : decode md_K_told.2.1 88 = .ok (.ireturn, 1) := by decide +kernel
theorem d_K_told_89 : decode md_K_told.2.1 89 = .ok (.aload_n 0, 1) := by decide +kernel
theorem d_K_told_90 : decode md_K_told.2.1 90 = .ok (.getfield 57, 3) := by decide +kernel
theorem d_K_told_93 : decode md_K_told.2.1 93 = .ok (.ireturn, 1) := by decide +kernel
theorem d_K_told_94 : decode md_K_told.2.1 94 = .ok (.aload_n 0, 1) := by decide +kernel
theorem d_K_told_95 : decode md_K_told.2.1 95 = .ok (.getfield 60, 3) := by decide +kernel
theorem d_K_told_98 : decode md_K_told.2.1 98 = .ok (.ireturn, 1) := by decide +kernel
theorem d_K_told_99 : decode md_K_told.2.1 99 = .ok (.aload_n 0, 1) := by decide +kernel
theorem d_K_told_100 : decode md_K_told.2.1 100 = .ok (.getfield 63, 3) := by decide +kernel
theorem d_K_told_103 : decode md_K_told.2.1 103 = .ok (.ireturn, 1) := by decide +kernel
theorem d_K_told_104 : decode md_K_told.2.1 104 = .ok (.aload_n 0, 1) := by decide +kernel
theorem d_K_told_105 : decode md_K_told.2.1 105 = .ok (.getfield 66, 3) := by decide +kernel
theorem d_K_told_108 : decode md_K_told.2.1 108 = .ok (.ireturn, 1) := by decide +kernel
theorem d_K_told_109 : decode md_K_told.2.1 109 = .ok (.new 85, 3) := by decide +kernel
theorem d_K_told_112 : decode md_K_told.2.1 112 = .ok (.dup, 1) := by decide +kernel
theorem d_K_told_113 : decode md_K_told.2.1 113 = .ok (.ldc 247, 2) := by decide +kernel
theorem d_K_told_115 : decode md_K_told.2.1 115 = .ok (.invokespecial 89, 3) := by decide +kernel
theorem d_K_told_118 : decode md_K_told.2.1 118 = .ok (.athrow, 1) := by decide +kernel
theorem d_K_folded_0 : decode md_K_folded.2.1 0 = .ok (.aload_n 0, 1) := by decide +kernel
theorem d_K_folded_1 : decode md_K_folded.2.1 1 = .ok (.lload_n 1, 1) := by decide +kernel
theorem d_K_folded_2 : decode md_K_folded.2.1 2 = .ok (.invokevirtual 190, 3) := by decide +kernel
theorem d_K_folded_5 : decode md_K_folded.2.1 5 = .ok (.istore_n 3, 1) := by decide +kernel
theorem d_K_folded_6 : decode md_K_folded.2.1 6 = .ok (.iload_n 3, 1) := by decide +kernel
theorem d_K_folded_7 : decode md_K_folded.2.1 7 = .ok (.ifCond .ge 13, 3) := by decide +kernel
theorem d_K_folded_10 : decode md_K_folded.2.1 10 = .ok (.new 116, 3) := by decide +kernel
theorem d_K_folded_13 : decode md_K_folded.2.1 13 = .ok (.dup, 1) := by decide +kernel
theorem d_K_folded_14 : decode md_K_folded.2.1 14 = .ok (.ldc 194, 2) := by decide +kernel
theorem d_K_folded_16 : decode md_K_folded.2.1 16 = .ok (.invokespecial 120, 3) := by decide +kernel
theorem d_K_folded_19 : decode md_K_folded.2.1 19 = .ok (.athrow, 1) := by decide +kernel
theorem d_K_folded_20 : decode md_K_folded.2.1 20 = .ok (.aload_n 0, 1) := by decide +kernel
theorem d_K_folded_21 : decode md_K_folded.2.1 21 = .ok (.getfield 16, 3) := by decide +kernel
theorem d_K_folded_24 : decode md_K_folded.2.1 24 = .ok (.iload_n 3, 1) := by decide +kernel
theorem d_K_folded_25 : decode md_K_folded.2.1 25 = .ok (.invokevirtual 121, 3) := by decide +kernel
theorem d_K_folded_28 : decode md_K_folded.2.1 28 = .ok (.checkcast 196, 3) := by decide +kernel
theorem d_K_folded_31 : decode md_K_folded.2.1 31 = .ok (.invokevirtual 249, 3) := by decide +kernel
theorem d_K_folded_34 : decode md_K_folded.2.1 34 = .ok (.ireturn, 1) := by decide +kernel
theorem d_R_statesAreThoseFoldedAnew_0 : decode md_R_statesAreThoseFoldedAnew.2.1 0 = .ok (.iconst 0, 1) := by decide +kernel
theorem d_R_statesAreThoseFoldedAnew_1 : decode md_R_statesAreThoseFoldedAnew.2.1 1 = .ok (.istore_n 1, 1) := by decide +kernel
theorem d_R_statesAreThoseFoldedAnew_2 : decode md_R_statesAreThoseFoldedAnew.2.1 2 = .ok (.iload_n 1, 1) := by decide +kernel
theorem d_R_statesAreThoseFoldedAnew_3 : decode md_R_statesAreThoseFoldedAnew.2.1 3 = .ok (.aload_n 0, 1) := by decide +kernel
theorem d_R_statesAreThoseFoldedAnew_4 : decode md_R_statesAreThoseFoldedAnew.2.1 4 = .ok (.getfield 29, 3) := by decide +kernel
theorem d_R_statesAreThoseFoldedAnew_7 : decode md_R_statesAreThoseFoldedAnew.2.1 7 = .ok (.invokevirtual 50, 3) := by decide +kernel
theorem d_R_statesAreThoseFoldedAnew_10 : decode md_R_statesAreThoseFoldedAnew.2.1 10 = .ok (.if_icmp .ge 40, 3) := by decide +kernel
theorem d_R_statesAreThoseFoldedAnew_13 : decode md_R_statesAreThoseFoldedAnew.2.1 13 = .ok (.aload_n 0, 1) := by decide +kernel
theorem d_R_statesAreThoseFoldedAnew_14 : decode md_R_statesAreThoseFoldedAnew.2.1 14 = .ok (.getfield 33, 3) := by decide +kernel
theorem d_R_statesAreThoseFoldedAnew_17 : decode md_R_statesAreThoseFoldedAnew.2.1 17 = .ok (.iload_n 1, 1) := by decide +kernel
theorem d_R_statesAreThoseFoldedAnew_18 : decode md_R_statesAreThoseFoldedAnew.2.1 18 = .ok (.laload, 1) := by decide +kernel
theorem d_R_statesAreThoseFoldedAnew_19 : decode md_R_statesAreThoseFoldedAnew.2.1 19 = .ok (.aload_n 0, 1) := by decide +kernel
theorem d_R_statesAreThoseFoldedAnew_20 : decode md_R_statesAreThoseFoldedAnew.2.1 20 = .ok (.aload_n 0, 1) := by decide +kernel
theorem d_R_statesAreThoseFoldedAnew_21 : decode md_R_statesAreThoseFoldedAnew.2.1 21 = .ok (.getfield 18, 3) := by decide +kernel
theorem d_R_statesAreThoseFoldedAnew_24 : decode md_R_statesAreThoseFoldedAnew.2.1 24 = .ok (.aload_n 0, 1) := by decide +kernel
theorem d_R_statesAreThoseFoldedAnew_25 : decode md_R_statesAreThoseFoldedAnew.2.1 25 = .ok (.getfield 29, 3) := by decide +kernel
theorem d_R_statesAreThoseFoldedAnew_28 : decode md_R_statesAreThoseFoldedAnew.2.1 28 = .ok (.iload_n 1, 1) := by decide +kernel
theorem d_R_statesAreThoseFoldedAnew_29 : decode md_R_statesAreThoseFoldedAnew.2.1 29 = .ok (.invokevirtual 56, 3) := by decide +kernel
theorem d_R_statesAreThoseFoldedAnew_32 : decode md_R_statesAreThoseFoldedAnew.2.1 32 = .ok (.checkcast 60, 3) := by decide +kernel
theorem d_R_statesAreThoseFoldedAnew_35 : decode md_R_statesAreThoseFoldedAnew.2.1 35 = .ok (.invokevirtual 70, 3) := by decide +kernel
theorem d_R_statesAreThoseFoldedAnew_38 : decode md_R_statesAreThoseFoldedAnew.2.1 38 = .ok (.lcmp, 1) := by decide +kernel
theorem d_R_statesAreThoseFoldedAnew_39 : decode md_R_statesAreThoseFoldedAnew.2.1 39 = .ok (.ifCond .eq 5, 3) := by decide +kernel
theorem d_R_statesAreThoseFoldedAnew_42 : decode md_R_statesAreThoseFoldedAnew.2.1 42 = .ok (.iconst 0, 1) := by decide +kernel
theorem d_R_statesAreThoseFoldedAnew_43 : decode md_R_statesAreThoseFoldedAnew.2.1 43 = .ok (.ireturn, 1) := by decide +kernel
theorem d_R_statesAreThoseFoldedAnew_44 : decode md_R_statesAreThoseFoldedAnew.2.1 44 = .ok (.iinc 1 1, 3) := by decide +kernel
theorem d_R_statesAreThoseFoldedAnew_47 : decode md_R_statesAreThoseFoldedAnew.2.1 47 = .ok (.goto (-45), 3) := by decide +kernel
theorem d_R_statesAreThoseFoldedAnew_50 : decode md_R_statesAreThoseFoldedAnew.2.1 50 = .ok (.iconst 1, 1) := by decide +kernel
theorem d_R_statesAreThoseFoldedAnew_51 : decode md_R_statesAreThoseFoldedAnew.2.1 51 = .ok (.ireturn, 1) := by decide +kernel
theorem d_K_joined_0 : decode md_K_joined.2.1 0 = .ok (.aload_n 0, 1) := by decide +kernel
theorem d_K_joined_1 : decode md_K_joined.2.1 1 = .ok (.iload_n 1, 1) := by decide +kernel
theorem d_K_joined_2 : decode md_K_joined.2.1 2 = .ok (.invokevirtual 112, 3) := by decide +kernel
theorem d_K_joined_5 : decode md_K_joined.2.1 5 = .ok (.ifCond .ne 13, 3) := by decide +kernel
theorem d_K_joined_8 : decode md_K_joined.2.1 8 = .ok (.new 116, 3) := by decide +kernel
theorem d_K_joined_11 : decode md_K_joined.2.1 11 = .ok (.dup, 1) := by decide +kernel
theorem d_K_joined_12 : decode md_K_joined.2.1 12 = .ok (.ldc 118, 2) := by decide +kernel
theorem d_K_joined_14 : decode md_K_joined.2.1 14 = .ok (.invokespecial 120, 3) := by decide +kernel
theorem d_K_joined_17 : decode md_K_joined.2.1 17 = .ok (.athrow, 1) := by decide +kernel
theorem d_K_joined_18 : decode md_K_joined.2.1 18 = .ok (.aload_n 0, 1) := by decide +kernel
theorem d_K_joined_19 : decode md_K_joined.2.1 19 = .ok (.getfield 10, 3) := by decide +kernel
theorem d_K_joined_22 : decode md_K_joined.2.1 22 = .ok (.iload_n 1, 1) := by decide +kernel
theorem d_K_joined_23 : decode md_K_joined.2.1 23 = .ok (.invokevirtual 121, 3) := by decide +kernel
theorem d_K_joined_26 : decode md_K_joined.2.1 26 = .ok (.checkcast 103, 3) := by decide +kernel
theorem d_K_joined_29 : decode md_K_joined.2.1 29 = .ok (.invokevirtual 252, 3) := by decide +kernel
theorem d_K_joined_32 : decode md_K_joined.2.1 32 = .ok (.ifCond .ne 5, 3) := by decide +kernel
theorem d_K_joined_35 : decode md_K_joined.2.1 35 = .ok (.iconst 1, 1) := by decide +kernel
theorem d_K_joined_36 : decode md_K_joined.2.1 36 = .ok (.ireturn, 1) := by decide +kernel
theorem d_K_joined_37 : decode md_K_joined.2.1 37 = .ok (.iconst 0, 1) := by decide +kernel
theorem d_K_joined_38 : decode md_K_joined.2.1 38 = .ok (.istore_n 2, 1) := by decide +kernel
theorem d_K_joined_39 : decode md_K_joined.2.1 39 = .ok (.iload_n 2, 1) := by decide +kernel
theorem d_K_joined_40 : decode md_K_joined.2.1 40 = .ok (.aload_n 0, 1) := by decide +kernel
theorem d_K_joined_41 : decode md_K_joined.2.1 41 = .ok (.getfield 16, 3) := by decide +kernel
theorem d_K_joined_44 : decode md_K_joined.2.1 44 = .ok (.invokevirtual 92, 3) := by decide +kernel
theorem d_K_joined_47 : decode md_K_joined.2.1 47 = .ok (.if_icmp .ge 29, 3) := by decide +kernel
theorem d_K_joined_50 : decode md_K_joined.2.1 50 = .ok (.aload_n 0, 1) := by decide +kernel
theorem d_K_joined_51 : decode md_K_joined.2.1 51 = .ok (.getfield 16, 3) := by decide +kernel
theorem d_K_joined_54 : decode md_K_joined.2.1 54 = .ok (.iload_n 2, 1) := by decide +kernel
theorem d_K_joined_55 : decode md_K_joined.2.1 55 = .ok (.invokevirtual 121, 3) := by decide +kernel
theorem d_K_joined_58 : decode md_K_joined.2.1 58 = .ok (.checkcast 196, 3) := by decide +kernel
theorem d_K_joined_61 : decode md_K_joined.2.1 61 = .ok (.iload_n 1, 1) := by decide +kernel
theorem d_K_joined_62 : decode md_K_joined.2.1 62 = .ok (.invokevirtual 255, 3) := by decide +kernel
theorem d_K_joined_65 : decode md_K_joined.2.1 65 = .ok (.ifCond .ne 5, 3) := by decide +kernel
theorem d_K_joined_68 : decode md_K_joined.2.1 68 = .ok (.iconst 0, 1) := by decide +kernel
theorem d_K_joined_69 : decode md_K_joined.2.1 69 = .ok (.ireturn, 1) := by decide +kernel
theorem d_K_joined_70 : decode md_K_joined.2.1 70 = .ok (.iinc 2 1, 3) := by decide +kernel
theorem d_K_joined_73 : decode md_K_joined.2.1 73 = .ok (.goto (-34), 3) := by decide +kernel
theorem d_K_joined_76 : decode md_K_joined.2.1 76 = .ok (.iconst 1, 1) := by decide +kernel
theorem d_K_joined_77 : decode md_K_joined.2.1 77 = .ok (.ireturn, 1) := by decide +kernel
theorem d_R_stateIsThatFoldedBackwards_0 : decode md_R_stateIsThatFoldedBackwards.2.1 0 = .ok (.aload_n 0, 1) := by decide +kernel
theorem d_R_stateIsThatFoldedBackwards_1 : decode md_R_stateIsThatFoldedBackwards.2.1 1 = .ok (.getfield 29, 3) := by decide +kernel
theorem d_R_stateIsThatFoldedBackwards_4 : decode md_R_stateIsThatFoldedBackwards.2.1 4 = .ok (.iload_n 1, 1) := by decide +kernel
theorem d_R_stateIsThatFoldedBackwards_5 : decode md_R_stateIsThatFoldedBackwards.2.1 5 = .ok (.invokevirtual 56, 3) := by decide +kernel
theorem d_R_stateIsThatFoldedBackwards_8 : decode md_R_stateIsThatFoldedBackwards.2.1 8 = .ok (.checkcast 60, 3) := by decide +kernel
theorem d_R_stateIsThatFoldedBackwards_11 : decode md_R_stateIsThatFoldedBackwards.2.1 11 = .ok (.astore_n 2, 1) := by decide +kernel
theorem d_R_stateIsThatFoldedBackwards_12 : decode md_R_stateIsThatFoldedBackwards.2.1 12 = .ok (.aload_n 2, 1) := by decide +kernel
theorem d_R_stateIsThatFoldedBackwards_13 : decode md_R_stateIsThatFoldedBackwards.2.1 13 = .ok (.getfield 84, 3) := by decide +kernel
theorem d_R_stateIsThatFoldedBackwards_16 : decode md_R_stateIsThatFoldedBackwards.2.1 16 = .ok (.lstore_n 3, 1) := by decide +kernel
theorem d_R_stateIsThatFoldedBackwards_17 : decode md_R_stateIsThatFoldedBackwards.2.1 17 = .ok (.aload_n 0, 1) := by decide +kernel
theorem d_R_stateIsThatFoldedBackwards_18 : decode md_R_stateIsThatFoldedBackwards.2.1 18 = .ok (.getfield 18, 3) := by decide +kernel
theorem d_R_stateIsThatFoldedBackwards_21 : decode md_R_stateIsThatFoldedBackwards.2.1 21 = .ok (.iconst 1, 1) := by decide +kernel
theorem d_R_stateIsThatFoldedBackwards_22 : decode md_R_stateIsThatFoldedBackwards.2.1 22 = .ok (.isub, 1) := by decide +kernel
theorem d_R_stateIsThatFoldedBackwards_23 : decode md_R_stateIsThatFoldedBackwards.2.1 23 = .ok (.istore 5, 2) := by decide +kernel
theorem d_R_stateIsThatFoldedBackwards_25 : decode md_R_stateIsThatFoldedBackwards.2.1 25 = .ok (.iload 5, 2) := by decide +kernel
theorem d_R_stateIsThatFoldedBackwards_27 : decode md_R_stateIsThatFoldedBackwards.2.1 27 = .ok (.ifCond .lt 18, 3) := by decide +kernel
theorem d_R_stateIsThatFoldedBackwards_30 : decode md_R_stateIsThatFoldedBackwards.2.1 30 = .ok (.aload_n 0, 1) := by decide +kernel
theorem d_R_stateIsThatFoldedBackwards_31 : decode md_R_stateIsThatFoldedBackwards.2.1 31 = .ok (.iload 5, 2) := by decide +kernel
theorem d_R_stateIsThatFoldedBackwards_33 : decode md_R_stateIsThatFoldedBackwards.2.1 33 = .ok (.aload_n 2, 1) := by decide +kernel
theorem d_R_stateIsThatFoldedBackwards_34 : decode md_R_stateIsThatFoldedBackwards.2.1 34 = .ok (.lload_n 3, 1) := by decide +kernel
theorem d_R_stateIsThatFoldedBackwards_35 : decode md_R_stateIsThatFoldedBackwards.2.1 35 = .ok (.invokevirtual 66, 3) := by decide +kernel
theorem d_R_stateIsThatFoldedBackwards_38 : decode md_R_stateIsThatFoldedBackwards.2.1 38 = .ok (.lstore_n 3, 1) := by decide +kernel
theorem d_R_stateIsThatFoldedBackwards_39 : decode md_R_stateIsThatFoldedBackwards.2.1 39 = .ok (.iinc 5 (-1), 3) := by decide +kernel
theorem d_R_stateIsThatFoldedBackwards_42 : decode md_R_stateIsThatFoldedBackwards.2.1 42 = .ok (.goto (-17), 3) := by decide +kernel
theorem d_R_stateIsThatFoldedBackwards_45 : decode md_R_stateIsThatFoldedBackwards.2.1 45 = .ok (.lload_n 3, 1) := by decide +kernel
theorem d_R_stateIsThatFoldedBackwards_46 : decode md_R_stateIsThatFoldedBackwards.2.1 46 = .ok (.aload_n 0, 1) := by decide +kernel
theorem d_R_stateIsThatFoldedBackwards_47 : decode md_R_stateIsThatFoldedBackwards.2.1 47 = .ok (.getfield 33, 3) := by decide +kernel
theorem d_R_stateIsThatFoldedBackwards_50 : decode md_R_stateIsThatFoldedBackwards.2.1 50 = .ok (.iload_n 1, 1) := by decide +kernel
theorem d_R_stateIsThatFoldedBackwards_51 : decode md_R_stateIsThatFoldedBackwards.2.1 51 = .ok (.laload, 1) := by decide +kernel
theorem d_R_stateIsThatFoldedBackwards_52 : decode md_R_stateIsThatFoldedBackwards.2.1 52 = .ok (.lcmp, 1) := by decide +kernel
theorem d_R_stateIsThatFoldedBackwards_53 : decode md_R_stateIsThatFoldedBackwards.2.1 53 = .ok (.ifCond .ne 7, 3) := by decide +kernel
theorem d_R_stateIsThatFoldedBackwards_56 : decode md_R_stateIsThatFoldedBackwards.2.1 56 = .ok (.iconst 1, 1) := by decide +kernel
theorem d_R_stateIsThatFoldedBackwards_57 : decode md_R_stateIsThatFoldedBackwards.2.1 57 = .ok (.goto 4, 3) := by decide +kernel
theorem d_R_stateIsThatFoldedBackwards_60 : decode md_R_stateIsThatFoldedBackwards.2.1 60 = .ok (.iconst 0, 1) := by decide +kernel
theorem d_R_stateIsThatFoldedBackwards_61 : decode md_R_stateIsThatFoldedBackwards.2.1 61 = .ok (.ireturn, 1) := by decide +kernel
end
section
theorem d_L_cell_0 : decode md_L_cell.2.1 0 = .ok (.iload_n 1, 1) := by decide +kernel
theorem d_L_cell_1 : decode md_L_cell.2.1 1 = .ok (.aload_n 0, 1) := by decide +kernel
theorem d_L_cell_2 : decode md_L_cell.2.1 2 = .ok (.arraylength, 1) := by decide +kernel
theorem d_L_cell_3 : decode md_L_cell.2.1 3 = .ok (.if_icmp .ge 9, 3) := by decide +kernel
theorem d_L_cell_6 : decode md_L_cell.2.1 6 = .ok (.aload_n 0, 1) := by decide +kernel
theorem d_L_cell_7 : decode md_L_cell.2.1 7 = .ok (.iload_n 1, 1) := by decide +kernel
theorem d_L_cell_8 : decode md_L_cell.2.1 8 = .ok (.iaload, 1) := by decide +kernel
theorem d_L_cell_9 : decode md_L_cell.2.1 9 = .ok (.goto 4, 3) := by decide +kernel
theorem d_L_cell_12 : decode md_L_cell.2.1 12 = .ok (.iconst 0, 1) := by decide +kernel
theorem d_L_cell_13 : decode md_L_cell.2.1 13 = .ok (.ireturn, 1) := by decide +kernel
theorem d_L_fold_0 : decode md_L_fold.2.1 0 = .ok (.aload 6, 2) := by decide +kernel
theorem d_L_fold_2 : decode md_L_fold.2.1 2 = .ok (.iconst 0, 1) := by decide +kernel
theorem d_L_fold_3 : decode md_L_fold.2.1 3 = .ok (.aload_n 0, 1) := by decide +kernel
theorem d_L_fold_4 : decode md_L_fold.2.1 4 = .ok (.iload_n 1, 1) := by decide +kernel
theorem d_L_fold_5 : decode md_L_fold.2.1 5 = .ok (.lload_n 2, 1) := by decide +kernel
theorem d_L_fold_6 : decode md_L_fold.2.1 6 = .ok (.lload 4, 2) := by decide +kernel
theorem d_L_fold_8 : decode md_L_fold.2.1 8 = .ok (.invokevirtual 7, 3) := by decide +kernel
theorem d_L_fold_11 : decode md_L_fold.2.1 11 = .ok (.i2l, 1) := by decide +kernel
theorem d_L_fold_12 : decode md_L_fold.2.1 12 = .ok (.lastore, 1) := by decide +kernel
theorem d_L_fold_13 : decode md_L_fold.2.1 13 = .ok (.goto 11, 3) := by decide +kernel
theorem d_L_fold_16 : decode md_L_fold.2.1 16 = .ok (.astore 7, 2) := by decide +kernel
theorem d_L_fold_18 : decode md_L_fold.2.1 18 = .ok (.iconst 1, 1) := by decide +kernel
theorem d_L_fold_19 : decode md_L_fold.2.1 19 = .ok (.ireturn, 1) := by decide +kernel
theorem d_L_fold_20 : decode md_L_fold.2.1 20 = .ok (.astore 7, 2) := by decide +kernel
theorem d_L_fold_22 : decode md_L_fold.2.1 22 = .ok (.iconst 2, 1) := by decide +kernel
theorem d_L_fold_23 : decode md_L_fold.2.1 23 = .ok (.ireturn, 1) := by decide +kernel
theorem d_L_fold_24 : decode md_L_fold.2.1 24 = .ok (.iconst 0, 1) := by decide +kernel
theorem d_L_fold_25 : decode md_L_fold.2.1 25 = .ok (.ireturn, 1) := by decide +kernel
theorem d_L_failsAt_0 : decode md_L_failsAt.2.1 0 = .ok (.aload 4, 2) := by decide +kernel
theorem d_L_failsAt_2 : decode md_L_failsAt.2.1 2 = .ok (.iconst 0, 1) := by decide +kernel
theorem d_L_failsAt_3 : decode md_L_failsAt.2.1 3 = .ok (.aload_n 0, 1) := by decide +kernel
theorem d_L_failsAt_4 : decode md_L_failsAt.2.1 4 = .ok (.iload_n 1, 1) := by decide +kernel
theorem d_L_failsAt_5 : decode md_L_failsAt.2.1 5 = .ok (.lload_n 2, 1) := by decide +kernel
theorem d_L_failsAt_6 : decode md_L_failsAt.2.1 6 = .ok (.invokevirtual 17, 3) := by decide +kernel
theorem d_L_failsAt_9 : decode md_L_failsAt.2.1 9 = .ok (.i2l, 1) := by decide +kernel
theorem d_L_failsAt_10 : decode md_L_failsAt.2.1 10 = .ok (.lastore, 1) := by decide +kernel
theorem d_L_failsAt_11 : decode md_L_failsAt.2.1 11 = .ok (.goto 11, 3) := by decide +kernel
theorem d_L_failsAt_14 : decode md_L_failsAt.2.1 14 = .ok (.astore 5, 2) := by decide +kernel
theorem d_L_failsAt_16 : decode md_L_failsAt.2.1 16 = .ok (.iconst 1, 1) := by decide +kernel
theorem d_L_failsAt_17 : decode md_L_failsAt.2.1 17 = .ok (.ireturn, 1) := by decide +kernel
theorem d_L_failsAt_18 : decode md_L_failsAt.2.1 18 = .ok (.astore 5, 2) := by decide +kernel
theorem d_L_failsAt_20 : decode md_L_failsAt.2.1 20 = .ok (.iconst 2, 1) := by decide +kernel
theorem d_L_failsAt_21 : decode md_L_failsAt.2.1 21 = .ok (.ireturn, 1) := by decide +kernel
theorem d_L_failsAt_22 : decode md_L_failsAt.2.1 22 = .ok (.iconst 0, 1) := by decide +kernel
theorem d_L_failsAt_23 : decode md_L_failsAt.2.1 23 = .ok (.ireturn, 1) := by decide +kernel
theorem d_L_rule_0 : decode md_L_rule.2.1 0 = .ok (.aload_n 3, 1) := by decide +kernel
theorem d_L_rule_1 : decode md_L_rule.2.1 1 = .ok (.iconst 0, 1) := by decide +kernel
theorem d_L_rule_2 : decode md_L_rule.2.1 2 = .ok (.aload_n 0, 1) := by decide +kernel
theorem d_L_rule_3 : decode md_L_rule.2.1 3 = .ok (.iload_n 1, 1) := by decide +kernel
theorem d_L_rule_4 : decode md_L_rule.2.1 4 = .ok (.iload_n 2, 1) := by decide +kernel
theorem d_L_rule_5 : decode md_L_rule.2.1 5 = .ok (.invokevirtual 23, 3) := by decide +kernel
theorem d_L_rule_8 : decode md_L_rule.2.1 8 = .ok (.i2l, 1) := by decide +kernel
theorem d_L_rule_9 : decode md_L_rule.2.1 9 = .ok (.lastore, 1) := by decide +kernel
theorem d_L_rule_10 : decode md_L_rule.2.1 10 = .ok (.goto 7, 3) := by decide +kernel
theorem d_L_rule_13 : decode md_L_rule.2.1 13 = .ok (.astore 4, 2) := by decide +kernel
theorem d_L_rule_15 : decode md_L_rule.2.1 15 = .ok (.iconst 1, 1) := by decide +kernel
theorem d_L_rule_16 : decode md_L_rule.2.1 16 = .ok (.ireturn, 1) := by decide +kernel
theorem d_L_rule_17 : decode md_L_rule.2.1 17 = .ok (.iconst 0, 1) := by decide +kernel
theorem d_L_rule_18 : decode md_L_rule.2.1 18 = .ok (.ireturn, 1) := by decide +kernel
theorem d_L_row_0 : decode md_L_row.2.1 0 = .ok (.aload 7, 2) := by decide +kernel
theorem d_L_row_2 : decode md_L_row.2.1 2 = .ok (.iconst 0, 1) := by decide +kernel
theorem d_L_row_3 : decode md_L_row.2.1 3 = .ok (.aload_n 0, 1) := by decide +kernel
theorem d_L_row_4 : decode md_L_row.2.1 4 = .ok (.lload_n 1, 1) := by decide +kernel
theorem d_L_row_5 : decode md_L_row.2.1 5 = .ok (.lload_n 3, 1) := by decide +kernel
theorem d_L_row_6 : decode md_L_row.2.1 6 = .ok (.lload 5, 2) := by decide +kernel
theorem d_L_row_8 : decode md_L_row.2.1 8 = .ok (.invokevirtual 27, 3) := by decide +kernel
theorem d_L_row_11 : decode md_L_row.2.1 11 = .ok (.i2l, 1) := by decide +kernel
theorem d_L_row_12 : decode md_L_row.2.1 12 = .ok (.lastore, 1) := by decide +kernel
theorem d_L_row_13 : decode md_L_row.2.1 13 = .ok (.goto 11, 3) := by decide +kernel
theorem d_L_row_16 : decode md_L_row.2.1 16 = .ok (.astore 8, 2) := by decide +kernel
theorem d_L_row_18 : decode md_L_row.2.1 18 = .ok (.iconst 1, 1) := by decide +kernel
theorem d_L_row_19 : decode md_L_row.2.1 19 = .ok (.ireturn, 1) := by decide +kernel
theorem d_L_row_20 : decode md_L_row.2.1 20 = .ok (.astore 8, 2) := by decide +kernel
theorem d_L_row_22 : decode md_L_row.2.1 22 = .ok (.iconst 2, 1) := by decide +kernel
theorem d_L_row_23 : decode md_L_row.2.1 23 = .ok (.ireturn, 1) := by decide +kernel
theorem d_L_row_24 : decode md_L_row.2.1 24 = .ok (.iconst 0, 1) := by decide +kernel
theorem d_L_row_25 : decode md_L_row.2.1 25 = .ok (.ireturn, 1) := by decide +kernel
theorem d_L_resume_0 : decode md_L_resume.2.1 0 = .ok (.aload_n 0, 1) := by decide +kernel
theorem d_L_resume_1 : decode md_L_resume.2.1 1 = .ok (.lload_n 1, 1) := by decide +kernel
theorem d_L_resume_2 : decode md_L_resume.2.1 2 = .ok (.invokevirtual 31, 3) := by decide +kernel
theorem d_L_resume_5 : decode md_L_resume.2.1 5 = .ok (.goto 6, 3) := by decide +kernel
theorem d_L_resume_8 : decode md_L_resume.2.1 8 = .ok (.astore_n 3, 1) := by decide +kernel
theorem d_L_resume_9 : decode md_L_resume.2.1 9 = .ok (.iconst 1, 1) := by decide +kernel
theorem d_L_resume_10 : decode md_L_resume.2.1 10 = .ok (.ireturn, 1) := by decide +kernel
theorem d_L_resume_11 : decode md_L_resume.2.1 11 = .ok (.iconst 0, 1) := by decide +kernel
theorem d_L_resume_12 : decode md_L_resume.2.1 12 = .ok (.ireturn, 1) := by decide +kernel
theorem d_L_state_0 : decode md_L_state.2.1 0 = .ok (.aload 4, 2) := by decide +kernel
theorem d_L_state_2 : decode md_L_state.2.1 2 = .ok (.iconst 0, 1) := by decide +kernel
theorem d_L_state_3 : decode md_L_state.2.1 3 = .ok (.aload_n 0, 1) := by decide +kernel
theorem d_L_state_4 : decode md_L_state.2.1 4 = .ok (.lload_n 1, 1) := by decide +kernel
theorem d_L_state_5 : decode md_L_state.2.1 5 = .ok (.iload_n 3, 1) := by decide +kernel
theorem d_L_state_6 : decode md_L_state.2.1 6 = .ok (.invokevirtual 35, 3) := by decide +kernel
theorem d_L_state_9 : decode md_L_state.2.1 9 = .ok (.lastore, 1) := by decide +kernel
theorem d_L_state_10 : decode md_L_state.2.1 10 = .ok (.goto 7, 3) := by decide +kernel
theorem d_L_state_13 : decode md_L_state.2.1 13 = .ok (.astore 5, 2) := by decide +kernel
theorem d_L_state_15 : decode md_L_state.2.1 15 = .ok (.iconst 1, 1) := by decide +kernel
theorem d_L_state_16 : decode md_L_state.2.1 16 = .ok (.ireturn, 1) := by decide +kernel
theorem d_L_state_17 : decode md_L_state.2.1 17 = .ok (.iconst 0, 1) := by decide +kernel
theorem d_L_state_18 : decode md_L_state.2.1 18 = .ok (.ireturn, 1) := by decide +kernel
theorem d_L_key_0 : decode md_L_key.2.1 0 = .ok (.aload 4, 2) := by decide +kernel
theorem d_L_key_2 : decode md_L_key.2.1 2 = .ok (.iconst 0, 1) := by decide +kernel
theorem d_L_key_3 : decode md_L_key.2.1 3 = .ok (.aload_n 0, 1) := by decide +kernel
theorem d_L_key_4 : decode md_L_key.2.1 4 = .ok (.lload_n 1, 1) := by decide +kernel
theorem d_L_key_5 : decode md_L_key.2.1 5 = .ok (.iload_n 3, 1) := by decide +kernel
theorem d_L_key_6 : decode md_L_key.2.1 6 = .ok (.invokevirtual 39, 3) := by decide +kernel
theorem d_L_key_9 : decode md_L_key.2.1 9 = .ok (.i2l, 1) := by decide +kernel
theorem d_L_key_10 : decode md_L_key.2.1 10 = .ok (.lastore, 1) := by decide +kernel
theorem d_L_key_11 : decode md_L_key.2.1 11 = .ok (.goto 7, 3) := by decide +kernel
theorem d_L_key_14 : decode md_L_key.2.1 14 = .ok (.astore 5, 2) := by decide +kernel
theorem d_L_key_16 : decode md_L_key.2.1 16 = .ok (.iconst 1, 1) := by decide +kernel
theorem d_L_key_17 : decode md_L_key.2.1 17 = .ok (.ireturn, 1) := by decide +kernel
theorem d_L_key_18 : decode md_L_key.2.1 18 = .ok (.iconst 0, 1) := by decide +kernel
theorem d_L_key_19 : decode md_L_key.2.1 19 = .ok (.ireturn, 1) := by decide +kernel
theorem d_L_rowOf_0 : decode md_L_rowOf.2.1 0 = .ok (.aload 5, 2) := by decide +kernel
theorem d_L_rowOf_2 : decode md_L_rowOf.2.1 2 = .ok (.iconst 0, 1) := by decide +kernel
theorem d_L_rowOf_3 : decode md_L_rowOf.2.1 3 = .ok (.aload_n 0, 1) := by decide +kernel
theorem d_L_rowOf_4 : decode md_L_rowOf.2.1 4 = .ok (.lload_n 1, 1) := by decide +kernel
theorem d_L_rowOf_5 : decode md_L_rowOf.2.1 5 = .ok (.iload_n 3, 1) := by decide +kernel
theorem d_L_rowOf_6 : decode md_L_rowOf.2.1 6 = .ok (.iload 4, 2) := by decide +kernel
theorem d_L_rowOf_8 : decode md_L_rowOf.2.1 8 = .ok (.invokevirtual 43, 3) := by decide +kernel
theorem d_L_rowOf_11 : decode md_L_rowOf.2.1 11 = .ok (.lastore, 1) := by decide +kernel
theorem d_L_rowOf_12 : decode md_L_rowOf.2.1 12 = .ok (.goto 7, 3) := by decide +kernel
theorem d_L_rowOf_15 : decode md_L_rowOf.2.1 15 = .ok (.astore 6, 2) := by decide +kernel
theorem d_L_rowOf_17 : decode md_L_rowOf.2.1 17 = .ok (.iconst 1, 1) := by decide +kernel
theorem d_L_rowOf_18 : decode md_L_rowOf.2.1 18 = .ok (.ireturn, 1) := by decide +kernel
theorem d_L_rowOf_19 : decode md_L_rowOf.2.1 19 = .ok (.iconst 0, 1) := by decide +kernel
theorem d_L_rowOf_20 : decode md_L_rowOf.2.1 20 = .ok (.ireturn, 1) := by decide +kernel
theorem d_L_aside_0 : decode md_L_aside.2.1 0 = .ok (.aload_n 3, 1) := by decide +kernel
theorem d_L_aside_1 : decode md_L_aside.2.1 1 = .ok (.iconst 0, 1) := by decide +kernel
theorem d_L_aside_2 : decode md_L_aside.2.1 2 = .ok (.aload_n 0, 1) := by decide +kernel
theorem d_L_aside_3 : decode md_L_aside.2.1 3 = .ok (.iload_n 1, 1) := by decide +kernel
theorem d_L_aside_4 : decode md_L_aside.2.1 4 = .ok (.iload_n 2, 1) := by decide +kernel
theorem d_L_aside_5 : decode md_L_aside.2.1 5 = .ok (.invokevirtual 47, 3) := by decide +kernel
theorem d_L_aside_8 : decode md_L_aside.2.1 8 = .ok (.lastore, 1) := by decide +kernel
theorem d_L_aside_9 : decode md_L_aside.2.1 9 = .ok (.goto 7, 3) := by decide +kernel
theorem d_L_aside_12 : decode md_L_aside.2.1 12 = .ok (.astore 4, 2) := by decide +kernel
theorem d_L_aside_14 : decode md_L_aside.2.1 14 = .ok (.iconst 1, 1) := by decide +kernel
theorem d_L_aside_15 : decode md_L_aside.2.1 15 = .ok (.ireturn, 1) := by decide +kernel
theorem d_L_aside_16 : decode md_L_aside.2.1 16 = .ok (.iconst 0, 1) := by decide +kernel
theorem d_L_aside_17 : decode md_L_aside.2.1 17 = .ok (.ireturn, 1) := by decide +kernel
theorem d_L_output_0 : decode md_L_output.2.1 0 = .ok (.aload_n 3, 1) := by decide +kernel
theorem d_L_output_1 : decode md_L_output.2.1 1 = .ok (.iconst 0, 1) := by decide +kernel
theorem d_L_output_2 : decode md_L_output.2.1 2 = .ok (.aload_n 0, 1) := by decide +kernel
theorem d_L_output_3 : decode md_L_output.2.1 3 = .ok (.iload_n 1, 1) := by decide +kernel
theorem d_L_output_4 : decode md_L_output.2.1 4 = .ok (.iload_n 2, 1) := by decide +kernel
theorem d_L_output_5 : decode md_L_output.2.1 5 = .ok (.invokevirtual 51, 3) := by decide +kernel
theorem d_L_output_8 : decode md_L_output.2.1 8 = .ok (.lastore, 1) := by decide +kernel
theorem d_L_output_9 : decode md_L_output.2.1 9 = .ok (.goto 7, 3) := by decide +kernel
theorem d_L_output_12 : decode md_L_output.2.1 12 = .ok (.astore 4, 2) := by decide +kernel
theorem d_L_output_14 : decode md_L_output.2.1 14 = .ok (.iconst 1, 1) := by decide +kernel
theorem d_L_output_15 : decode md_L_output.2.1 15 = .ok (.ireturn, 1) := by decide +kernel
theorem d_L_output_16 : decode md_L_output.2.1 16 = .ok (.iconst 0, 1) := by decide +kernel
theorem d_L_output_17 : decode md_L_output.2.1 17 = .ok (.ireturn, 1) := by decide +kernel
theorem d_L_watermark_0 : decode md_L_watermark.2.1 0 = .ok (.aload_n 1, 1) := by decide +kernel
theorem d_L_watermark_1 : decode md_L_watermark.2.1 1 = .ok (.iconst 0, 1) := by decide +kernel
theorem d_L_watermark_2 : decode md_L_watermark.2.1 2 = .ok (.aload_n 0, 1) := by decide +kernel
theorem d_L_watermark_3 : decode md_L_watermark.2.1 3 = .ok (.invokevirtual 54, 3) := by decide +kernel
theorem d_L_watermark_6 : decode md_L_watermark.2.1 6 = .ok (.lastore, 1) := by decide +kernel
theorem d_L_watermark_7 : decode md_L_watermark.2.1 7 = .ok (.goto 6, 3) := by decide +kernel
theorem d_L_watermark_10 : decode md_L_watermark.2.1 10 = .ok (.astore_n 2, 1) := by decide +kernel
theorem d_L_watermark_11 : decode md_L_watermark.2.1 11 = .ok (.iconst 1, 1) := by decide +kernel
theorem d_L_watermark_12 : decode md_L_watermark.2.1 12 = .ok (.ireturn, 1) := by decide +kernel
theorem d_L_watermark_13 : decode md_L_watermark.2.1 13 = .ok (.iconst 0, 1) := by decide +kernel
theorem d_L_watermark_14 : decode md_L_watermark.2.1 14 = .ok (.ireturn, 1) := by decide +kernel
theorem d_L_told_0 : decode md_L_told.2.1 0 = .ok (.aload_n 2, 1) := by decide +kernel
theorem d_L_told_1 : decode md_L_told.2.1 1 = .ok (.iconst 0, 1) := by decide +kernel
theorem d_L_told_2 : decode md_L_told.2.1 2 = .ok (.aload_n 0, 1) := by decide +kernel
theorem d_L_told_3 : decode md_L_told.2.1 3 = .ok (.iload_n 1, 1) := by decide +kernel
theorem d_L_told_4 : decode md_L_told.2.1 4 = .ok (.invokevirtual 58, 3) := by decide +kernel
theorem d_L_told_7 : decode md_L_told.2.1 7 = .ok (.i2l, 1) := by decide +kernel
theorem d_L_told_8 : decode md_L_told.2.1 8 = .ok (.lastore, 1) := by decide +kernel
theorem d_L_told_9 : decode md_L_told.2.1 9 = .ok (.goto 6, 3) := by decide +kernel
theorem d_L_told_12 : decode md_L_told.2.1 12 = .ok (.astore_n 3, 1) := by decide +kernel
theorem d_L_told_13 : decode md_L_told.2.1 13 = .ok (.iconst 1, 1) := by decide +kernel
theorem d_L_told_14 : decode md_L_told.2.1 14 = .ok (.ireturn, 1) := by decide +kernel
theorem d_L_told_15 : decode md_L_told.2.1 15 = .ok (.iconst 0, 1) := by decide +kernel
theorem d_L_told_16 : decode md_L_told.2.1 16 = .ok (.ireturn, 1) := by decide +kernel
theorem d_L_folded_0 : decode md_L_folded.2.1 0 = .ok (.aload_n 3, 1) := by decide +kernel
theorem d_L_folded_1 : decode md_L_folded.2.1 1 = .ok (.iconst 0, 1) := by decide +kernel
theorem d_L_folded_2 : decode md_L_folded.2.1 2 = .ok (.aload_n 0, 1) := by decide +kernel
theorem d_L_folded_3 : decode md_L_folded.2.1 3 = .ok (.lload_n 1, 1) := by decide +kernel
theorem d_L_folded_4 : decode md_L_folded.2.1 4 = .ok (.invokevirtual 62, 3) := by decide +kernel
theorem d_L_folded_7 : decode md_L_folded.2.1 7 = .ok (.ifCond .eq 7, 3) := by decide +kernel
theorem d_L_folded_10 : decode md_L_folded.2.1 10 = .ok (.lconst 1, 1) := by decide +kernel
theorem d_L_folded_11 : decode md_L_folded.2.1 11 = .ok (.goto 4, 3) := by decide +kernel
theorem d_L_folded_14 : decode md_L_folded.2.1 14 = .ok (.lconst 0, 1) := by decide +kernel
theorem d_L_folded_15 : decode md_L_folded.2.1 15 = .ok (.lastore, 1) := by decide +kernel
theorem d_L_folded_16 : decode md_L_folded.2.1 16 = .ok (.goto 7, 3) := by decide +kernel
theorem d_L_folded_19 : decode md_L_folded.2.1 19 = .ok (.astore 4, 2) := by decide +kernel
theorem d_L_folded_21 : decode md_L_folded.2.1 21 = .ok (.iconst 1, 1) := by decide +kernel
theorem d_L_folded_22 : decode md_L_folded.2.1 22 = .ok (.ireturn, 1) := by decide +kernel
theorem d_L_folded_23 : decode md_L_folded.2.1 23 = .ok (.iconst 0, 1) := by decide +kernel
theorem d_L_folded_24 : decode md_L_folded.2.1 24 = .ok (.ireturn, 1) := by decide +kernel
theorem d_L_joined_0 : decode md_L_joined.2.1 0 = .ok (.aload_n 2, 1) := by decide +kernel
theorem d_L_joined_1 : decode md_L_joined.2.1 1 = .ok (.iconst 0, 1) := by decide +kernel
theorem d_L_joined_2 : decode md_L_joined.2.1 2 = .ok (.aload_n 0, 1) := by decide +kernel
theorem d_L_joined_3 : decode md_L_joined.2.1 3 = .ok (.iload_n 1, 1) := by decide +kernel
theorem d_L_joined_4 : decode md_L_joined.2.1 4 = .ok (.invokevirtual 66, 3) := by decide +kernel
theorem d_L_joined_7 : decode md_L_joined.2.1 7 = .ok (.ifCond .eq 7, 3) := by decide +kernel
theorem d_L_joined_10 : decode md_L_joined.2.1 10 = .ok (.lconst 1, 1) := by decide +kernel
theorem d_L_joined_11 : decode md_L_joined.2.1 11 = .ok (.goto 4, 3) := by decide +kernel
theorem d_L_joined_14 : decode md_L_joined.2.1 14 = .ok (.lconst 0, 1) := by decide +kernel
theorem d_L_joined_15 : decode md_L_joined.2.1 15 = .ok (.lastore, 1) := by decide +kernel
theorem d_L_joined_16 : decode md_L_joined.2.1 16 = .ok (.goto 6, 3) := by decide +kernel
theorem d_L_joined_19 : decode md_L_joined.2.1 19 = .ok (.astore_n 3, 1) := by decide +kernel
theorem d_L_joined_20 : decode md_L_joined.2.1 20 = .ok (.iconst 1, 1) := by decide +kernel
theorem d_L_joined_21 : decode md_L_joined.2.1 21 = .ok (.ireturn, 1) := by decide +kernel
theorem d_L_joined_22 : decode md_L_joined.2.1 22 = .ok (.iconst 0, 1) := by decide +kernel
theorem d_L_joined_23 : decode md_L_joined.2.1 23 = .ok (.ireturn, 1) := by decide +kernel
theorem d_L_law_0 : decode md_L_law.2.1 0 = .ok (.new 8, 3) := by decide +kernel
theorem d_L_law_3 : decode md_L_law.2.1 3 = .ok (.dup, 1) := by decide +kernel
theorem d_L_law_4 : decode md_L_law.2.1 4 = .ok (.aload_n 0, 1) := by decide +kernel
theorem d_L_law_5 : decode md_L_law.2.1 5 = .ok (.iconst 0, 1) := by decide +kernel
theorem d_L_law_6 : decode md_L_law.2.1 6 = .ok (.invokestatic 70, 3) := by decide +kernel
theorem d_L_law_9 : decode md_L_law.2.1 9 = .ok (.aload_n 0, 1) := by decide +kernel
theorem d_L_law_10 : decode md_L_law.2.1 10 = .ok (.iconst 1, 1) := by decide +kernel
theorem d_L_law_11 : decode md_L_law.2.1 11 = .ok (.invokestatic 70, 3) := by decide +kernel
theorem d_L_law_14 : decode md_L_law.2.1 14 = .ok (.aload_n 0, 1) := by decide +kernel
theorem d_L_law_15 : decode md_L_law.2.1 15 = .ok (.iconst 2, 1) := by decide +kernel
theorem d_L_law_16 : decode md_L_law.2.1 16 = .ok (.invokestatic 70, 3) := by decide +kernel
theorem d_L_law_19 : decode md_L_law.2.1 19 = .ok (.aload_n 0, 1) := by decide +kernel
theorem d_L_law_20 : decode md_L_law.2.1 20 = .ok (.iconst 3, 1) := by decide +kernel
theorem d_L_law_21 : decode md_L_law.2.1 21 = .ok (.invokestatic 70, 3) := by decide +kernel
theorem d_L_law_24 : decode md_L_law.2.1 24 = .ok (.invokespecial 76, 3) := by decide +kernel
theorem d_L_law_27 : decode md_L_law.2.1 27 = .ok (.astore_n 1, 1) := by decide +kernel
theorem d_L_law_28 : decode md_L_law.2.1 28 = .ok (.new 79, 3) := by decide +kernel
theorem d_L_law_31 : decode md_L_law.2.1 31 = .ok (.dup, 1) := by decide +kernel
theorem d_L_law_32 : decode md_L_law.2.1 32 = .ok (.aload_n 0, 1) := by decide +kernel
theorem d_L_law_33 : decode md_L_law.2.1 33 = .ok (.iconst 0, 1) := by decide +kernel
theorem d_L_law_34 : decode md_L_law.2.1 34 = .ok (.invokestatic 70, 3) := by decide +kernel
theorem d_L_law_37 : decode md_L_law.2.1 37 = .ok (.aload_n 0, 1) := by decide +kernel
theorem d_L_law_38 : decode md_L_law.2.1 38 = .ok (.iconst 1, 1) := by decide +kernel
theorem d_L_law_39 : decode md_L_law.2.1 39 = .ok (.invokestatic 70, 3) := by decide +kernel
theorem d_L_law_42 : decode md_L_law.2.1 42 = .ok (.aload_n 0, 1) := by decide +kernel
theorem d_L_law_43 : decode md_L_law.2.1 43 = .ok (.iconst 2, 1) := by decide +kernel
theorem d_L_law_44 : decode md_L_law.2.1 44 = .ok (.invokestatic 70, 3) := by decide +kernel
theorem d_L_law_47 : decode md_L_law.2.1 47 = .ok (.aload_n 0, 1) := by decide +kernel
theorem d_L_law_48 : decode md_L_law.2.1 48 = .ok (.iconst 3, 1) := by decide +kernel
theorem d_L_law_49 : decode md_L_law.2.1 49 = .ok (.invokestatic 70, 3) := by decide +kernel
theorem d_L_law_52 : decode md_L_law.2.1 52 = .ok (.invokespecial 81, 3) := by decide +kernel
theorem d_L_law_55 : decode md_L_law.2.1 55 = .ok (.astore_n 2, 1) := by decide +kernel
theorem d_L_law_56 : decode md_L_law.2.1 56 = .ok (.iconst 1, 1) := by decide +kernel
theorem d_L_law_57 : decode md_L_law.2.1 57 = .ok (.newarray .long, 2) := by decide +kernel
theorem d_L_law_59 : decode md_L_law.2.1 59 = .ok (.astore_n 3, 1) := by decide +kernel
theorem d_L_law_60 : decode md_L_law.2.1 60 = .ok (.iconst 4, 1) := by decide +kernel
theorem d_L_law_61 : decode md_L_law.2.1 61 = .ok (.istore 4, 2) := by decide +kernel
theorem d_L_law_63 : decode md_L_law.2.1 63 = .ok (.iload 4, 2) := by decide +kernel
theorem d_L_law_65 : decode md_L_law.2.1 65 = .ok (.aload_n 0, 1) := by decide +kernel
theorem d_L_law_66 : decode md_L_law.2.1 66 = .ok (.arraylength, 1) := by decide +kernel
theorem d_L_law_67 : decode md_L_law.2.1 67 = .ok (.bipush 7, 2) := by decide +kernel
theorem d_L_law_69 : decode md_L_law.2.1 69 = .ok (.isub, 1) := by decide +kernel
theorem d_L_law_70 : decode md_L_law.2.1 70 = .ok (.if_icmp .gt 1347, 3) := by decide +kernel
theorem d_L_law_73 : decode md_L_law.2.1 73 = .ok (.aload_n 0, 1) := by decide +kernel
theorem d_L_law_74 : decode md_L_law.2.1 74 = .ok (.iload 4, 2) := by decide +kernel
theorem d_L_law_76 : decode md_L_law.2.1 76 = .ok (.iaload, 1) := by decide +kernel
theorem d_L_law_77 : decode md_L_law.2.1 77 = .ok (.bipush 15, 2) := by decide +kernel
theorem d_L_law_79 : decode md_L_law.2.1 79 = .ok (.iand, 1) := by decide +kernel
theorem d_L_law_80 : decode md_L_law.2.1 80 = .ok (.tableswitch 1331 0 13 #[72, 216, 316, 384, 562, 630, 729, 829, 940, 1007, 1074, 1117, 1173, 1268], 72) := by decide +kernel
theorem d_L_law_152 : decode md_L_law.2.1 152 = .ok (.aload_n 1, 1) := by decide +kernel
theorem d_L_law_153 : decode md_L_law.2.1 153 = .ok (.aload_n 0, 1) := by decide +kernel
theorem d_L_law_154 : decode md_L_law.2.1 154 = .ok (.iload 4, 2) := by decide +kernel
theorem d_L_law_156 : decode md_L_law.2.1 156 = .ok (.iconst 1, 1) := by decide +kernel
theorem d_L_law_157 : decode md_L_law.2.1 157 = .ok (.iadd, 1) := by decide +kernel
theorem d_L_law_158 : decode md_L_law.2.1 158 = .ok (.iaload, 1) := by decide +kernel
theorem d_L_law_159 : decode md_L_law.2.1 159 = .ok (.aload_n 0, 1) := by decide +kernel
theorem d_L_law_160 : decode md_L_law.2.1 160 = .ok (.iload 4, 2) := by decide +kernel
theorem d_L_law_162 : decode md_L_law.2.1 162 = .ok (.iconst 2, 1) := by decide +kernel
theorem d_L_law_163 : decode md_L_law.2.1 163 = .ok (.iadd, 1) := by decide +kernel
theorem d_L_law_164 : decode md_L_law.2.1 164 = .ok (.iaload, 1) := by decide +kernel
theorem d_L_law_165 : decode md_L_law.2.1 165 = .ok (.i2l, 1) := by decide +kernel
theorem d_L_law_166 : decode md_L_law.2.1 166 = .ok (.bipush 32, 2) := by decide +kernel
theorem d_L_law_168 : decode md_L_law.2.1 168 = .ok (.lshl, 1) := by decide +kernel
theorem d_L_law_169 : decode md_L_law.2.1 169 = .ok (.aload_n 0, 1) := by decide +kernel
theorem d_L_law_170 : decode md_L_law.2.1 170 = .ok (.iload 4, 2) := by decide +kernel
theorem d_L_law_172 : decode md_L_law.2.1 172 = .ok (.iconst 3, 1) := by decide +kernel
theorem d_L_law_173 : decode md_L_law.2.1 173 = .ok (.iadd, 1) := by decide +kernel
theorem d_L_law_174 : decode md_L_law.2.1 174 = .ok (.iaload, 1) := by decide +kernel
theorem d_L_law_175 : decode md_L_law.2.1 175 = .ok (.i2l, 1) := by decide +kernel
theorem d_L_law_176 : decode md_L_law.2.1 176 = .ok (.ldc2_w 82, 3) := by decide +kernel
theorem d_L_law_179 : decode md_L_law.2.1 179 = .ok (.land, 1) := by decide +kernel
theorem d_L_law_180 : decode md_L_law.2.1 180 = .ok (.lor, 1) := by decide +kernel
theorem d_L_law_181 : decode md_L_law.2.1 181 = .ok (.aload_n 0, 1) := by decide +kernel
theorem d_L_law_182 : decode md_L_law.2.1 182 = .ok (.iload 4, 2) := by decide +kernel
theorem d_L_law_184 : decode md_L_law.2.1 184 = .ok (.iconst 4, 1) := by decide +kernel
theorem d_L_law_185 : decode md_L_law.2.1 185 = .ok (.iadd, 1) := by decide +kernel
theorem d_L_law_186 : decode md_L_law.2.1 186 = .ok (.iaload, 1) := by decide +kernel
theorem d_L_law_187 : decode md_L_law.2.1 187 = .ok (.i2l, 1) := by decide +kernel
theorem d_L_law_188 : decode md_L_law.2.1 188 = .ok (.bipush 32, 2) := by decide +kernel
theorem d_L_law_190 : decode md_L_law.2.1 190 = .ok (.lshl, 1) := by decide +kernel
theorem d_L_law_191 : decode md_L_law.2.1 191 = .ok (.aload_n 0, 1) := by decide +kernel
theorem d_L_law_192 : decode md_L_law.2.1 192 = .ok (.iload 4, 2) := by decide +kernel
theorem d_L_law_194 : decode md_L_law.2.1 194 = .ok (.iconst 5, 1) := by decide +kernel
theorem d_L_law_195 : decode md_L_law.2.1 195 = .ok (.iadd, 1) := by decide +kernel
theorem d_L_law_196 : decode md_L_law.2.1 196 = .ok (.iaload, 1) := by decide +kernel
theorem d_L_law_197 : decode md_L_law.2.1 197 = .ok (.i2l, 1) := by decide +kernel
theorem d_L_law_198 : decode md_L_law.2.1 198 = .ok (.ldc2_w 82, 3) := by decide +kernel
theorem d_L_law_201 : decode md_L_law.2.1 201 = .ok (.land, 1) := by decide +kernel
theorem d_L_law_202 : decode md_L_law.2.1 202 = .ok (.lor, 1) := by decide +kernel
theorem d_L_law_203 : decode md_L_law.2.1 203 = .ok (.aload_n 3, 1) := by decide +kernel
theorem d_L_law_204 : decode md_L_law.2.1 204 = .ok (.invokestatic 84, 3) := by decide +kernel
theorem d_L_law_207 : decode md_L_law.2.1 207 = .ok (.istore 5, 2) := by decide +kernel
theorem d_L_law_209 : decode md_L_law.2.1 209 = .ok (.aload_n 2, 1) := by decide +kernel
theorem d_L_law_210 : decode md_L_law.2.1 210 = .ok (.aload_n 0, 1) := by decide +kernel
theorem d_L_law_211 : decode md_L_law.2.1 211 = .ok (.iload 4, 2) := by decide +kernel
theorem d_L_law_213 : decode md_L_law.2.1 213 = .ok (.iconst 1, 1) := by decide +kernel
theorem d_L_law_214 : decode md_L_law.2.1 214 = .ok (.iadd, 1) := by decide +kernel
theorem d_L_law_215 : decode md_L_law.2.1 215 = .ok (.iaload, 1) := by decide +kernel
theorem d_L_law_216 : decode md_L_law.2.1 216 = .ok (.aload_n 0, 1) := by decide +kernel
theorem d_L_law_217 : decode md_L_law.2.1 217 = .ok (.iload 4, 2) := by decide +kernel
theorem d_L_law_219 : decode md_L_law.2.1 219 = .ok (.iconst 2, 1) := by decide +kernel
theorem d_L_law_220 : decode md_L_law.2.1 220 = .ok (.iadd, 1) := by decide +kernel
theorem d_L_law_221 : decode md_L_law.2.1 221 = .ok (.iaload, 1) := by decide +kernel
theorem d_L_law_222 : decode md_L_law.2.1 222 = .ok (.i2l, 1) := by decide +kernel
theorem d_L_law_223 : decode md_L_law.2.1 223 = .ok (.bipush 32, 2) := by decide +kernel
theorem d_L_law_225 : decode md_L_law.2.1 225 = .ok (.lshl, 1) := by decide +kernel
theorem d_L_law_226 : decode md_L_law.2.1 226 = .ok (.aload_n 0, 1) := by decide +kernel
theorem d_L_law_227 : decode md_L_law.2.1 227 = .ok (.iload 4, 2) := by decide +kernel
theorem d_L_law_229 : decode md_L_law.2.1 229 = .ok (.iconst 3, 1) := by decide +kernel
theorem d_L_law_230 : decode md_L_law.2.1 230 = .ok (.iadd, 1) := by decide +kernel
theorem d_L_law_231 : decode md_L_law.2.1 231 = .ok (.iaload, 1) := by decide +kernel
theorem d_L_law_232 : decode md_L_law.2.1 232 = .ok (.i2l, 1) := by decide +kernel
theorem d_L_law_233 : decode md_L_law.2.1 233 = .ok (.ldc2_w 82, 3) := by decide +kernel
theorem d_L_law_236 : decode md_L_law.2.1 236 = .ok (.land, 1) := by decide +kernel
theorem d_L_law_237 : decode md_L_law.2.1 237 = .ok (.lor, 1) := by decide +kernel
theorem d_L_law_238 : decode md_L_law.2.1 238 = .ok (.aload_n 0, 1) := by decide +kernel
theorem d_L_law_239 : decode md_L_law.2.1 239 = .ok (.iload 4, 2) := by decide +kernel
theorem d_L_law_241 : decode md_L_law.2.1 241 = .ok (.iconst 4, 1) := by decide +kernel
theorem d_L_law_242 : decode md_L_law.2.1 242 = .ok (.iadd, 1) := by decide +kernel
theorem d_L_law_243 : decode md_L_law.2.1 243 = .ok (.iaload, 1) := by decide +kernel
theorem d_L_law_244 : decode md_L_law.2.1 244 = .ok (.i2l, 1) := by decide +kernel
theorem d_L_law_245 : decode md_L_law.2.1 245 = .ok (.bipush 32, 2) := by decide +kernel
theorem d_L_law_247 : decode md_L_law.2.1 247 = .ok (.lshl, 1) := by decide +kernel
theorem d_L_law_248 : decode md_L_law.2.1 248 = .ok (.aload_n 0, 1) := by decide +kernel
theorem d_L_law_249 : decode md_L_law.2.1 249 = .ok (.iload 4, 2) := by decide +kernel
theorem d_L_law_251 : decode md_L_law.2.1 251 = .ok (.iconst 5, 1) := by decide +kernel
theorem d_L_law_252 : decode md_L_law.2.1 252 = .ok (.iadd, 1) := by decide +kernel
theorem d_L_law_253 : decode md_L_law.2.1 253 = .ok (.iaload, 1) := by decide +kernel
theorem d_L_law_254 : decode md_L_law.2.1 254 = .ok (.i2l, 1) := by decide +kernel
theorem d_L_law_255 : decode md_L_law.2.1 255 = .ok (.ldc2_w 82, 3) := by decide +kernel
theorem d_L_law_258 : decode md_L_law.2.1 258 = .ok (.land, 1) := by decide +kernel
theorem d_L_law_259 : decode md_L_law.2.1 259 = .ok (.lor, 1) := by decide +kernel
theorem d_L_law_260 : decode md_L_law.2.1 260 = .ok (.invokevirtual 87, 3) := by decide +kernel
theorem d_L_law_263 : decode md_L_law.2.1 263 = .ok (.istore 6, 2) := by decide +kernel
theorem d_L_law_265 : decode md_L_law.2.1 265 = .ok (.aload_n 2, 1) := by decide +kernel
theorem d_L_law_266 : decode md_L_law.2.1 266 = .ok (.invokevirtual 88, 3) := by decide +kernel
theorem d_L_law_269 : decode md_L_law.2.1 269 = .ok (.iload 5, 2) := by decide +kernel
theorem d_L_law_271 : decode md_L_law.2.1 271 = .ok (.if_icmp .eq 5, 3) := by decide +kernel
theorem d_L_law_274 : decode md_L_law.2.1 274 = .ok (.iconst 0, 1) := by decide +kernel
theorem d_L_law_275 : decode md_L_law.2.1 275 = .ok (.ireturn, 1) := by decide +kernel
theorem d_L_law_276 : decode md_L_law.2.1 276 = .ok (.iload 5, 2) := by decide +kernel
theorem d_L_law_278 : decode md_L_law.2.1 278 = .ok (.ifCond .ne 15, 3) := by decide +kernel
theorem d_L_law_281 : decode md_L_law.2.1 281 = .ok (.aload_n 3, 1) := by decide +kernel
theorem d_L_law_282 : decode md_L_law.2.1 282 = .ok (.iconst 0, 1) := by decide +kernel
theorem d_L_law_283 : decode md_L_law.2.1 283 = .ok (.laload, 1) := by decide +kernel
theorem d_L_law_284 : decode md_L_law.2.1 284 = .ok (.iload 6, 2) := by decide +kernel
theorem d_L_law_286 : decode md_L_law.2.1 286 = .ok (.i2l, 1) := by decide +kernel
theorem d_L_law_287 : decode md_L_law.2.1 287 = .ok (.lcmp, 1) := by decide +kernel
theorem d_L_law_288 : decode md_L_law.2.1 288 = .ok (.ifCond .eq 5, 3) := by decide +kernel
theorem d_L_law_291 : decode md_L_law.2.1 291 = .ok (.iconst 0, 1) := by decide +kernel
theorem d_L_law_292 : decode md_L_law.2.1 292 = .ok (.ireturn, 1) := by decide +kernel
theorem d_L_law_293 : decode md_L_law.2.1 293 = .ok (.goto 1118, 3) := by decide +kernel
theorem d_L_law_296 : decode md_L_law.2.1 296 = .ok (.aload_n 1, 1) := by decide +kernel
theorem d_L_law_297 : decode md_L_law.2.1 297 = .ok (.aload_n 0, 1) := by decide +kernel
theorem d_L_law_298 : decode md_L_law.2.1 298 = .ok (.iload 4, 2) := by decide +kernel
theorem d_L_law_300 : decode md_L_law.2.1 300 = .ok (.iconst 1, 1) := by decide +kernel
theorem d_L_law_301 : decode md_L_law.2.1 301 = .ok (.iadd, 1) := by decide +kernel
theorem d_L_law_302 : decode md_L_law.2.1 302 = .ok (.iaload, 1) := by decide +kernel
theorem d_L_law_303 : decode md_L_law.2.1 303 = .ok (.aload_n 0, 1) := by decide +kernel
theorem d_L_law_304 : decode md_L_law.2.1 304 = .ok (.iload 4, 2) := by decide +kernel
theorem d_L_law_306 : decode md_L_law.2.1 306 = .ok (.iconst 2, 1) := by decide +kernel
theorem d_L_law_307 : decode md_L_law.2.1 307 = .ok (.iadd, 1) := by decide +kernel
theorem d_L_law_308 : decode md_L_law.2.1 308 = .ok (.iaload, 1) := by decide +kernel
theorem d_L_law_309 : decode md_L_law.2.1 309 = .ok (.i2l, 1) := by decide +kernel
theorem d_L_law_310 : decode md_L_law.2.1 310 = .ok (.bipush 32, 2) := by decide +kernel
theorem d_L_law_312 : decode md_L_law.2.1 312 = .ok (.lshl, 1) := by decide +kernel
theorem d_L_law_313 : decode md_L_law.2.1 313 = .ok (.aload_n 0, 1) := by decide +kernel
theorem d_L_law_314 : decode md_L_law.2.1 314 = .ok (.iload 4, 2) := by decide +kernel
theorem d_L_law_316 : decode md_L_law.2.1 316 = .ok (.iconst 3, 1) := by decide +kernel
theorem d_L_law_317 : decode md_L_law.2.1 317 = .ok (.iadd, 1) := by decide +kernel
theorem d_L_law_318 : decode md_L_law.2.1 318 = .ok (.iaload, 1) := by decide +kernel
theorem d_L_law_319 : decode md_L_law.2.1 319 = .ok (.i2l, 1) := by decide +kernel
theorem d_L_law_320 : decode md_L_law.2.1 320 = .ok (.ldc2_w 82, 3) := by decide +kernel
theorem d_L_law_323 : decode md_L_law.2.1 323 = .ok (.land, 1) := by decide +kernel
theorem d_L_law_324 : decode md_L_law.2.1 324 = .ok (.lor, 1) := by decide +kernel
theorem d_L_law_325 : decode md_L_law.2.1 325 = .ok (.aload_n 3, 1) := by decide +kernel
theorem d_L_law_326 : decode md_L_law.2.1 326 = .ok (.invokestatic 92, 3) := by decide +kernel
theorem d_L_law_329 : decode md_L_law.2.1 329 = .ok (.istore 5, 2) := by decide +kernel
theorem d_L_law_331 : decode md_L_law.2.1 331 = .ok (.aload_n 2, 1) := by decide +kernel
theorem d_L_law_332 : decode md_L_law.2.1 332 = .ok (.aload_n 0, 1) := by decide +kernel
theorem d_L_law_333 : decode md_L_law.2.1 333 = .ok (.iload 4, 2) := by decide +kernel
theorem d_L_law_335 : decode md_L_law.2.1 335 = .ok (.iconst 1, 1) := by decide +kernel
theorem d_L_law_336 : decode md_L_law.2.1 336 = .ok (.iadd, 1) := by decide +kernel
theorem d_L_law_337 : decode md_L_law.2.1 337 = .ok (.iaload, 1) := by decide +kernel
theorem d_L_law_338 : decode md_L_law.2.1 338 = .ok (.aload_n 0, 1) := by decide +kernel
theorem d_L_law_339 : decode md_L_law.2.1 339 = .ok (.iload 4, 2) := by decide +kernel
theorem d_L_law_341 : decode md_L_law.2.1 341 = .ok (.iconst 2, 1) := by decide +kernel
theorem d_L_law_342 : decode md_L_law.2.1 342 = .ok (.iadd, 1) := by decide +kernel
theorem d_L_law_343 : decode md_L_law.2.1 343 = .ok (.iaload, 1) := by decide +kernel
theorem d_L_law_344 : decode md_L_law.2.1 344 = .ok (.i2l, 1) := by decide +kernel
theorem d_L_law_345 : decode md_L_law.2.1 345 = .ok (.bipush 32, 2) := by decide +kernel
end
section
theorem d_L_law_347 : decode md_L_law.2.1 347 = .ok (.lshl, 1) := by decide +kernel
theorem d_L_law_348 : decode md_L_law.2.1 348 = .ok (.aload_n 0, 1) := by decide +kernel
theorem d_L_law_349 : decode md_L_law.2.1 349 = .ok (.iload 4, 2) := by decide +kernel
theorem d_L_law_351 : decode md_L_law.2.1 351 = .ok (.iconst 3, 1) := by decide +kernel
theorem d_L_law_352 : decode md_L_law.2.1 352 = .ok (.iadd, 1) := by decide +kernel
theorem d_L_law_353 : decode md_L_law.2.1 353 = .ok (.iaload, 1) := by decide +kernel
theorem d_L_law_354 : decode md_L_law.2.1 354 = .ok (.i2l, 1) := by decide +kernel
theorem d_L_law_355 : decode md_L_law.2.1 355 = .ok (.ldc2_w 82, 3) := by decide +kernel
theorem d_L_law_358 : decode md_L_law.2.1 358 = .ok (.land, 1) := by decide +kernel
theorem d_L_law_359 : decode md_L_law.2.1 359 = .ok (.lor, 1) := by decide +kernel
theorem d_L_law_360 : decode md_L_law.2.1 360 = .ok (.invokevirtual 95, 3) := by decide +kernel
theorem d_L_law_363 : decode md_L_law.2.1 363 = .ok (.istore 6, 2) := by decide +kernel
theorem d_L_law_365 : decode md_L_law.2.1 365 = .ok (.aload_n 2, 1) := by decide +kernel
theorem d_L_law_366 : decode md_L_law.2.1 366 = .ok (.invokevirtual 88, 3) := by decide +kernel
theorem d_L_law_369 : decode md_L_law.2.1 369 = .ok (.iload 5, 2) := by decide +kernel
theorem d_L_law_371 : decode md_L_law.2.1 371 = .ok (.if_icmp .eq 5, 3) := by decide +kernel
theorem d_L_law_374 : decode md_L_law.2.1 374 = .ok (.iconst 0, 1) := by decide +kernel
theorem d_L_law_375 : decode md_L_law.2.1 375 = .ok (.ireturn, 1) := by decide +kernel
theorem d_L_law_376 : decode md_L_law.2.1 376 = .ok (.iload 5, 2) := by decide +kernel
theorem d_L_law_378 : decode md_L_law.2.1 378 = .ok (.ifCond .ne 15, 3) := by decide +kernel
theorem d_L_law_381 : decode md_L_law.2.1 381 = .ok (.aload_n 3, 1) := by decide +kernel
theorem d_L_law_382 : decode md_L_law.2.1 382 = .ok (.iconst 0, 1) := by decide +kernel
theorem d_L_law_383 : decode md_L_law.2.1 383 = .ok (.laload, 1) := by decide +kernel
theorem d_L_law_384 : decode md_L_law.2.1 384 = .ok (.iload 6, 2) := by decide +kernel
theorem d_L_law_386 : decode md_L_law.2.1 386 = .ok (.i2l, 1) := by decide +kernel
theorem d_L_law_387 : decode md_L_law.2.1 387 = .ok (.lcmp, 1) := by decide +kernel
theorem d_L_law_388 : decode md_L_law.2.1 388 = .ok (.ifCond .eq 5, 3) := by decide +kernel
theorem d_L_law_391 : decode md_L_law.2.1 391 = .ok (.iconst 0, 1) := by decide +kernel
theorem d_L_law_392 : decode md_L_law.2.1 392 = .ok (.ireturn, 1) := by decide +kernel
theorem d_L_law_393 : decode md_L_law.2.1 393 = .ok (.goto 1018, 3) := by decide +kernel
theorem d_L_law_396 : decode md_L_law.2.1 396 = .ok (.aload_n 1, 1) := by decide +kernel
theorem d_L_law_397 : decode md_L_law.2.1 397 = .ok (.aload_n 0, 1) := by decide +kernel
theorem d_L_law_398 : decode md_L_law.2.1 398 = .ok (.iload 4, 2) := by decide +kernel
theorem d_L_law_400 : decode md_L_law.2.1 400 = .ok (.iconst 1, 1) := by decide +kernel
theorem d_L_law_401 : decode md_L_law.2.1 401 = .ok (.iadd, 1) := by decide +kernel
theorem d_L_law_402 : decode md_L_law.2.1 402 = .ok (.iaload, 1) := by decide +kernel
theorem d_L_law_403 : decode md_L_law.2.1 403 = .ok (.aload_n 0, 1) := by decide +kernel
theorem d_L_law_404 : decode md_L_law.2.1 404 = .ok (.iload 4, 2) := by decide +kernel
theorem d_L_law_406 : decode md_L_law.2.1 406 = .ok (.iconst 2, 1) := by decide +kernel
theorem d_L_law_407 : decode md_L_law.2.1 407 = .ok (.iadd, 1) := by decide +kernel
theorem d_L_law_408 : decode md_L_law.2.1 408 = .ok (.iaload, 1) := by decide +kernel
theorem d_L_law_409 : decode md_L_law.2.1 409 = .ok (.aload_n 3, 1) := by decide +kernel
theorem d_L_law_410 : decode md_L_law.2.1 410 = .ok (.invokestatic 96, 3) := by decide +kernel
theorem d_L_law_413 : decode md_L_law.2.1 413 = .ok (.istore 5, 2) := by decide +kernel
theorem d_L_law_415 : decode md_L_law.2.1 415 = .ok (.aload_n 2, 1) := by decide +kernel
theorem d_L_law_416 : decode md_L_law.2.1 416 = .ok (.aload_n 0, 1) := by decide +kernel
theorem d_L_law_417 : decode md_L_law.2.1 417 = .ok (.iload 4, 2) := by decide +kernel
theorem d_L_law_419 : decode md_L_law.2.1 419 = .ok (.iconst 1, 1) := by decide +kernel
theorem d_L_law_420 : decode md_L_law.2.1 420 = .ok (.iadd, 1) := by decide +kernel
theorem d_L_law_421 : decode md_L_law.2.1 421 = .ok (.iaload, 1) := by decide +kernel
theorem d_L_law_422 : decode md_L_law.2.1 422 = .ok (.aload_n 0, 1) := by decide +kernel
theorem d_L_law_423 : decode md_L_law.2.1 423 = .ok (.iload 4, 2) := by decide +kernel
theorem d_L_law_425 : decode md_L_law.2.1 425 = .ok (.iconst 2, 1) := by decide +kernel
theorem d_L_law_426 : decode md_L_law.2.1 426 = .ok (.iadd, 1) := by decide +kernel
theorem d_L_law_427 : decode md_L_law.2.1 427 = .ok (.iaload, 1) := by decide +kernel
theorem d_L_law_428 : decode md_L_law.2.1 428 = .ok (.invokevirtual 99, 3) := by decide +kernel
theorem d_L_law_431 : decode md_L_law.2.1 431 = .ok (.istore 6, 2) := by decide +kernel
theorem d_L_law_433 : decode md_L_law.2.1 433 = .ok (.aload_n 2, 1) := by decide +kernel
theorem d_L_law_434 : decode md_L_law.2.1 434 = .ok (.invokevirtual 88, 3) := by decide +kernel
theorem d_L_law_437 : decode md_L_law.2.1 437 = .ok (.iload 5, 2) := by decide +kernel
theorem d_L_law_439 : decode md_L_law.2.1 439 = .ok (.if_icmp .eq 5, 3) := by decide +kernel
theorem d_L_law_442 : decode md_L_law.2.1 442 = .ok (.iconst 0, 1) := by decide +kernel
theorem d_L_law_443 : decode md_L_law.2.1 443 = .ok (.ireturn, 1) := by decide +kernel
theorem d_L_law_444 : decode md_L_law.2.1 444 = .ok (.iload 5, 2) := by decide +kernel
theorem d_L_law_446 : decode md_L_law.2.1 446 = .ok (.ifCond .ne 15, 3) := by decide +kernel
theorem d_L_law_449 : decode md_L_law.2.1 449 = .ok (.aload_n 3, 1) := by decide +kernel
theorem d_L_law_450 : decode md_L_law.2.1 450 = .ok (.iconst 0, 1) := by decide +kernel
theorem d_L_law_451 : decode md_L_law.2.1 451 = .ok (.laload, 1) := by decide +kernel
theorem d_L_law_452 : decode md_L_law.2.1 452 = .ok (.iload 6, 2) := by decide +kernel
theorem d_L_law_454 : decode md_L_law.2.1 454 = .ok (.i2l, 1) := by decide +kernel
theorem d_L_law_455 : decode md_L_law.2.1 455 = .ok (.lcmp, 1) := by decide +kernel
theorem d_L_law_456 : decode md_L_law.2.1 456 = .ok (.ifCond .eq 5, 3) := by decide +kernel
theorem d_L_law_459 : decode md_L_law.2.1 459 = .ok (.iconst 0, 1) := by decide +kernel
theorem d_L_law_460 : decode md_L_law.2.1 460 = .ok (.ireturn, 1) := by decide +kernel
theorem d_L_law_461 : decode md_L_law.2.1 461 = .ok (.goto 950, 3) := by decide +kernel
theorem d_L_law_464 : decode md_L_law.2.1 464 = .ok (.aload_n 1, 1) := by decide +kernel
theorem d_L_law_465 : decode md_L_law.2.1 465 = .ok (.aload_n 0, 1) := by decide +kernel
theorem d_L_law_466 : decode md_L_law.2.1 466 = .ok (.iload 4, 2) := by decide +kernel
theorem d_L_law_468 : decode md_L_law.2.1 468 = .ok (.iconst 1, 1) := by decide +kernel
theorem d_L_law_469 : decode md_L_law.2.1 469 = .ok (.iadd, 1) := by decide +kernel
theorem d_L_law_470 : decode md_L_law.2.1 470 = .ok (.iaload, 1) := by decide +kernel
theorem d_L_law_471 : decode md_L_law.2.1 471 = .ok (.i2l, 1) := by decide +kernel
theorem d_L_law_472 : decode md_L_law.2.1 472 = .ok (.bipush 32, 2) := by decide +kernel
theorem d_L_law_474 : decode md_L_law.2.1 474 = .ok (.lshl, 1) := by decide +kernel
theorem d_L_law_475 : decode md_L_law.2.1 475 = .ok (.aload_n 0, 1) := by decide +kernel
theorem d_L_law_476 : decode md_L_law.2.1 476 = .ok (.iload 4, 2) := by decide +kernel
theorem d_L_law_478 : decode md_L_law.2.1 478 = .ok (.iconst 2, 1) := by decide +kernel
theorem d_L_law_479 : decode md_L_law.2.1 479 = .ok (.iadd, 1) := by decide +kernel
theorem d_L_law_480 : decode md_L_law.2.1 480 = .ok (.iaload, 1) := by decide +kernel
theorem d_L_law_481 : decode md_L_law.2.1 481 = .ok (.i2l, 1) := by decide +kernel
theorem d_L_law_482 : decode md_L_law.2.1 482 = .ok (.ldc2_w 82, 3) := by decide +kernel
theorem d_L_law_485 : decode md_L_law.2.1 485 = .ok (.land, 1) := by decide +kernel
theorem d_L_law_486 : decode md_L_law.2.1 486 = .ok (.lor, 1) := by decide +kernel
theorem d_L_law_487 : decode md_L_law.2.1 487 = .ok (.aload_n 0, 1) := by decide +kernel
theorem d_L_law_488 : decode md_L_law.2.1 488 = .ok (.iload 4, 2) := by decide +kernel
theorem d_L_law_490 : decode md_L_law.2.1 490 = .ok (.iconst 3, 1) := by decide +kernel
theorem d_L_law_491 : decode md_L_law.2.1 491 = .ok (.iadd, 1) := by decide +kernel
theorem d_L_law_492 : decode md_L_law.2.1 492 = .ok (.iaload, 1) := by decide +kernel
theorem d_L_law_493 : decode md_L_law.2.1 493 = .ok (.i2l, 1) := by decide +kernel
theorem d_L_law_494 : decode md_L_law.2.1 494 = .ok (.bipush 32, 2) := by decide +kernel
theorem d_L_law_496 : decode md_L_law.2.1 496 = .ok (.lshl, 1) := by decide +kernel
theorem d_L_law_497 : decode md_L_law.2.1 497 = .ok (.aload_n 0, 1) := by decide +kernel
theorem d_L_law_498 : decode md_L_law.2.1 498 = .ok (.iload 4, 2) := by decide +kernel
theorem d_L_law_500 : decode md_L_law.2.1 500 = .ok (.iconst 4, 1) := by decide +kernel
theorem d_L_law_501 : decode md_L_law.2.1 501 = .ok (.iadd, 1) := by decide +kernel
theorem d_L_law_502 : decode md_L_law.2.1 502 = .ok (.iaload, 1) := by decide +kernel
theorem d_L_law_503 : decode md_L_law.2.1 503 = .ok (.i2l, 1) := by decide +kernel
theorem d_L_law_504 : decode md_L_law.2.1 504 = .ok (.ldc2_w 82, 3) := by decide +kernel
theorem d_L_law_507 : decode md_L_law.2.1 507 = .ok (.land, 1) := by decide +kernel
theorem d_L_law_508 : decode md_L_law.2.1 508 = .ok (.lor, 1) := by decide +kernel
theorem d_L_law_509 : decode md_L_law.2.1 509 = .ok (.aload_n 0, 1) := by decide +kernel
theorem d_L_law_510 : decode md_L_law.2.1 510 = .ok (.iload 4, 2) := by decide +kernel
theorem d_L_law_512 : decode md_L_law.2.1 512 = .ok (.iconst 5, 1) := by decide +kernel
theorem d_L_law_513 : decode md_L_law.2.1 513 = .ok (.iadd, 1) := by decide +kernel
theorem d_L_law_514 : decode md_L_law.2.1 514 = .ok (.iaload, 1) := by decide +kernel
theorem d_L_law_515 : decode md_L_law.2.1 515 = .ok (.i2l, 1) := by decide +kernel
theorem d_L_law_516 : decode md_L_law.2.1 516 = .ok (.bipush 32, 2) := by decide +kernel
theorem d_L_law_518 : decode md_L_law.2.1 518 = .ok (.lshl, 1) := by decide +kernel
theorem d_L_law_519 : decode md_L_law.2.1 519 = .ok (.aload_n 0, 1) := by decide +kernel
theorem d_L_law_520 : decode md_L_law.2.1 520 = .ok (.iload 4, 2) := by decide +kernel
theorem d_L_law_522 : decode md_L_law.2.1 522 = .ok (.bipush 6, 2) := by decide +kernel
theorem d_L_law_524 : decode md_L_law.2.1 524 = .ok (.iadd, 1) := by decide +kernel
theorem d_L_law_525 : decode md_L_law.2.1 525 = .ok (.iaload, 1) := by decide +kernel
theorem d_L_law_526 : decode md_L_law.2.1 526 = .ok (.i2l, 1) := by decide +kernel
theorem d_L_law_527 : decode md_L_law.2.1 527 = .ok (.ldc2_w 82, 3) := by decide +kernel
theorem d_L_law_530 : decode md_L_law.2.1 530 = .ok (.land, 1) := by decide +kernel
theorem d_L_law_531 : decode md_L_law.2.1 531 = .ok (.lor, 1) := by decide +kernel
theorem d_L_law_532 : decode md_L_law.2.1 532 = .ok (.aload_n 3, 1) := by decide +kernel
theorem d_L_law_533 : decode md_L_law.2.1 533 = .ok (.invokestatic 100, 3) := by decide +kernel
theorem d_L_law_536 : decode md_L_law.2.1 536 = .ok (.istore 5, 2) := by decide +kernel
theorem d_L_law_538 : decode md_L_law.2.1 538 = .ok (.aload_n 2, 1) := by decide +kernel
theorem d_L_law_539 : decode md_L_law.2.1 539 = .ok (.aload_n 0, 1) := by decide +kernel
theorem d_L_law_540 : decode md_L_law.2.1 540 = .ok (.iload 4, 2) := by decide +kernel
theorem d_L_law_542 : decode md_L_law.2.1 542 = .ok (.iconst 1, 1) := by decide +kernel
theorem d_L_law_543 : decode md_L_law.2.1 543 = .ok (.iadd, 1) := by decide +kernel
theorem d_L_law_544 : decode md_L_law.2.1 544 = .ok (.iaload, 1) := by decide +kernel
theorem d_L_law_545 : decode md_L_law.2.1 545 = .ok (.i2l, 1) := by decide +kernel
theorem d_L_law_546 : decode md_L_law.2.1 546 = .ok (.bipush 32, 2) := by decide +kernel
theorem d_L_law_548 : decode md_L_law.2.1 548 = .ok (.lshl, 1) := by decide +kernel
theorem d_L_law_549 : decode md_L_law.2.1 549 = .ok (.aload_n 0, 1) := by decide +kernel
theorem d_L_law_550 : decode md_L_law.2.1 550 = .ok (.iload 4, 2) := by decide +kernel
theorem d_L_law_552 : decode md_L_law.2.1 552 = .ok (.iconst 2, 1) := by decide +kernel
theorem d_L_law_553 : decode md_L_law.2.1 553 = .ok (.iadd, 1) := by decide +kernel
theorem d_L_law_554 : decode md_L_law.2.1 554 = .ok (.iaload, 1) := by decide +kernel
theorem d_L_law_555 : decode md_L_law.2.1 555 = .ok (.i2l, 1) := by decide +kernel
theorem d_L_law_556 : decode md_L_law.2.1 556 = .ok (.ldc2_w 82, 3) := by decide +kernel
theorem d_L_law_559 : decode md_L_law.2.1 559 = .ok (.land, 1) := by decide +kernel
theorem d_L_law_560 : decode md_L_law.2.1 560 = .ok (.lor, 1) := by decide +kernel
theorem d_L_law_561 : decode md_L_law.2.1 561 = .ok (.aload_n 0, 1) := by decide +kernel
theorem d_L_law_562 : decode md_L_law.2.1 562 = .ok (.iload 4, 2) := by decide +kernel
theorem d_L_law_564 : decode md_L_law.2.1 564 = .ok (.iconst 3, 1) := by decide +kernel
theorem d_L_law_565 : decode md_L_law.2.1 565 = .ok (.iadd, 1) := by decide +kernel
theorem d_L_law_566 : decode md_L_law.2.1 566 = .ok (.iaload, 1) := by decide +kernel
theorem d_L_law_567 : decode md_L_law.2.1 567 = .ok (.i2l, 1) := by decide +kernel
theorem d_L_law_568 : decode md_L_law.2.1 568 = .ok (.bipush 32, 2) := by decide +kernel
theorem d_L_law_570 : decode md_L_law.2.1 570 = .ok (.lshl, 1) := by decide +kernel
theorem d_L_law_571 : decode md_L_law.2.1 571 = .ok (.aload_n 0, 1) := by decide +kernel
theorem d_L_law_572 : decode md_L_law.2.1 572 = .ok (.iload 4, 2) := by decide +kernel
theorem d_L_law_574 : decode md_L_law.2.1 574 = .ok (.iconst 4, 1) := by decide +kernel
theorem d_L_law_575 : decode md_L_law.2.1 575 = .ok (.iadd, 1) := by decide +kernel
theorem d_L_law_576 : decode md_L_law.2.1 576 = .ok (.iaload, 1) := by decide +kernel
theorem d_L_law_577 : decode md_L_law.2.1 577 = .ok (.i2l, 1) := by decide +kernel
theorem d_L_law_578 : decode md_L_law.2.1 578 = .ok (.ldc2_w 82, 3) := by decide +kernel
theorem d_L_law_581 : decode md_L_law.2.1 581 = .ok (.land, 1) := by decide +kernel
theorem d_L_law_582 : decode md_L_law.2.1 582 = .ok (.lor, 1) := by decide +kernel
theorem d_L_law_583 : decode md_L_law.2.1 583 = .ok (.aload_n 0, 1) := by decide +kernel
theorem d_L_law_584 : decode md_L_law.2.1 584 = .ok (.iload 4, 2) := by decide +kernel
theorem d_L_law_586 : decode md_L_law.2.1 586 = .ok (.iconst 5, 1) := by decide +kernel
theorem d_L_law_587 : decode md_L_law.2.1 587 = .ok (.iadd, 1) := by decide +kernel
theorem d_L_law_588 : decode md_L_law.2.1 588 = .ok (.iaload, 1) := by decide +kernel
theorem d_L_law_589 : decode md_L_law.2.1 589 = .ok (.i2l, 1) := by decide +kernel
theorem d_L_law_590 : decode md_L_law.2.1 590 = .ok (.bipush 32, 2) := by decide +kernel
theorem d_L_law_592 : decode md_L_law.2.1 592 = .ok (.lshl, 1) := by decide +kernel
theorem d_L_law_593 : decode md_L_law.2.1 593 = .ok (.aload_n 0, 1) := by decide +kernel
theorem d_L_law_594 : decode md_L_law.2.1 594 = .ok (.iload 4, 2) := by decide +kernel
theorem d_L_law_596 : decode md_L_law.2.1 596 = .ok (.bipush 6, 2) := by decide +kernel
theorem d_L_law_598 : decode md_L_law.2.1 598 = .ok (.iadd, 1) := by decide +kernel
theorem d_L_law_599 : decode md_L_law.2.1 599 = .ok (.iaload, 1) := by decide +kernel
theorem d_L_law_600 : decode md_L_law.2.1 600 = .ok (.i2l, 1) := by decide +kernel
theorem d_L_law_601 : decode md_L_law.2.1 601 = .ok (.ldc2_w 82, 3) := by decide +kernel
theorem d_L_law_604 : decode md_L_law.2.1 604 = .ok (.land, 1) := by decide +kernel
theorem d_L_law_605 : decode md_L_law.2.1 605 = .ok (.lor, 1) := by decide +kernel
theorem d_L_law_606 : decode md_L_law.2.1 606 = .ok (.invokevirtual 103, 3) := by decide +kernel
theorem d_L_law_609 : decode md_L_law.2.1 609 = .ok (.istore 6, 2) := by decide +kernel
theorem d_L_law_611 : decode md_L_law.2.1 611 = .ok (.aload_n 2, 1) := by decide +kernel
theorem d_L_law_612 : decode md_L_law.2.1 612 = .ok (.invokevirtual 88, 3) := by decide +kernel
theorem d_L_law_615 : decode md_L_law.2.1 615 = .ok (.iload 5, 2) := by decide +kernel
theorem d_L_law_617 : decode md_L_law.2.1 617 = .ok (.if_icmp .eq 5, 3) := by decide +kernel
theorem d_L_law_620 : decode md_L_law.2.1 620 = .ok (.iconst 0, 1) := by decide +kernel
theorem d_L_law_621 : decode md_L_law.2.1 621 = .ok (.ireturn, 1) := by decide +kernel
theorem d_L_law_622 : decode md_L_law.2.1 622 = .ok (.iload 5, 2) := by decide +kernel
theorem d_L_law_624 : decode md_L_law.2.1 624 = .ok (.ifCond .ne 15, 3) := by decide +kernel
theorem d_L_law_627 : decode md_L_law.2.1 627 = .ok (.aload_n 3, 1) := by decide +kernel
theorem d_L_law_628 : decode md_L_law.2.1 628 = .ok (.iconst 0, 1) := by decide +kernel
theorem d_L_law_629 : decode md_L_law.2.1 629 = .ok (.laload, 1) := by decide +kernel
theorem d_L_law_630 : decode md_L_law.2.1 630 = .ok (.iload 6, 2) := by decide +kernel
theorem d_L_law_632 : decode md_L_law.2.1 632 = .ok (.i2l, 1) := by decide +kernel
theorem d_L_law_633 : decode md_L_law.2.1 633 = .ok (.lcmp, 1) := by decide +kernel
theorem d_L_law_634 : decode md_L_law.2.1 634 = .ok (.ifCond .eq 5, 3) := by decide +kernel
theorem d_L_law_637 : decode md_L_law.2.1 637 = .ok (.iconst 0, 1) := by decide +kernel
theorem d_L_law_638 : decode md_L_law.2.1 638 = .ok (.ireturn, 1) := by decide +kernel
theorem d_L_law_639 : decode md_L_law.2.1 639 = .ok (.goto 772, 3) := by decide +kernel
theorem d_L_law_642 : decode md_L_law.2.1 642 = .ok (.aload_n 1, 1) := by decide +kernel
theorem d_L_law_643 : decode md_L_law.2.1 643 = .ok (.aload_n 0, 1) := by decide +kernel
theorem d_L_law_644 : decode md_L_law.2.1 644 = .ok (.iload 4, 2) := by decide +kernel
theorem d_L_law_646 : decode md_L_law.2.1 646 = .ok (.iconst 1, 1) := by decide +kernel
theorem d_L_law_647 : decode md_L_law.2.1 647 = .ok (.iadd, 1) := by decide +kernel
theorem d_L_law_648 : decode md_L_law.2.1 648 = .ok (.iaload, 1) := by decide +kernel
theorem d_L_law_649 : decode md_L_law.2.1 649 = .ok (.i2l, 1) := by decide +kernel
theorem d_L_law_650 : decode md_L_law.2.1 650 = .ok (.bipush 32, 2) := by decide +kernel
theorem d_L_law_652 : decode md_L_law.2.1 652 = .ok (.lshl, 1) := by decide +kernel
theorem d_L_law_653 : decode md_L_law.2.1 653 = .ok (.aload_n 0, 1) := by decide +kernel
theorem d_L_law_654 : decode md_L_law.2.1 654 = .ok (.iload 4, 2) := by decide +kernel
theorem d_L_law_656 : decode md_L_law.2.1 656 = .ok (.iconst 2, 1) := by decide +kernel
theorem d_L_law_657 : decode md_L_law.2.1 657 = .ok (.iadd, 1) := by decide +kernel
theorem d_L_law_658 : decode md_L_law.2.1 658 = .ok (.iaload, 1) := by decide +kernel
theorem d_L_law_659 : decode md_L_law.2.1 659 = .ok (.i2l, 1) := by decide +kernel
theorem d_L_law_660 : decode md_L_law.2.1 660 = .ok (.ldc2_w 82, 3) := by decide +kernel
theorem d_L_law_663 : decode md_L_law.2.1 663 = .ok (.land, 1) := by decide +kernel
theorem d_L_law_664 : decode md_L_law.2.1 664 = .ok (.lor, 1) := by decide +kernel
theorem d_L_law_665 : decode md_L_law.2.1 665 = .ok (.invokestatic 104, 3) := by decide +kernel
theorem d_L_law_668 : decode md_L_law.2.1 668 = .ok (.istore 5, 2) := by decide +kernel
theorem d_L_law_670 : decode md_L_law.2.1 670 = .ok (.aload_n 2, 1) := by decide +kernel
theorem d_L_law_671 : decode md_L_law.2.1 671 = .ok (.aload_n 0, 1) := by decide +kernel
theorem d_L_law_672 : decode md_L_law.2.1 672 = .ok (.iload 4, 2) := by decide +kernel
theorem d_L_law_674 : decode md_L_law.2.1 674 = .ok (.iconst 1, 1) := by decide +kernel
theorem d_L_law_675 : decode md_L_law.2.1 675 = .ok (.iadd, 1) := by decide +kernel
theorem d_L_law_676 : decode md_L_law.2.1 676 = .ok (.iaload, 1) := by decide +kernel
theorem d_L_law_677 : decode md_L_law.2.1 677 = .ok (.i2l, 1) := by decide +kernel
theorem d_L_law_678 : decode md_L_law.2.1 678 = .ok (.bipush 32, 2) := by decide +kernel
theorem d_L_law_680 : decode md_L_law.2.1 680 = .ok (.lshl, 1) := by decide +kernel
theorem d_L_law_681 : decode md_L_law.2.1 681 = .ok (.aload_n 0, 1) := by decide +kernel
theorem d_L_law_682 : decode md_L_law.2.1 682 = .ok (.iload 4, 2) := by decide +kernel
theorem d_L_law_684 : decode md_L_law.2.1 684 = .ok (.iconst 2, 1) := by decide +kernel
theorem d_L_law_685 : decode md_L_law.2.1 685 = .ok (.iadd, 1) := by decide +kernel
theorem d_L_law_686 : decode md_L_law.2.1 686 = .ok (.iaload, 1) := by decide +kernel
theorem d_L_law_687 : decode md_L_law.2.1 687 = .ok (.i2l, 1) := by decide +kernel
theorem d_L_law_688 : decode md_L_law.2.1 688 = .ok (.ldc2_w 82, 3) := by decide +kernel
theorem d_L_law_691 : decode md_L_law.2.1 691 = .ok (.land, 1) := by decide +kernel
theorem d_L_law_692 : decode md_L_law.2.1 692 = .ok (.lor, 1) := by decide +kernel
theorem d_L_law_693 : decode md_L_law.2.1 693 = .ok (.invokevirtual 107, 3) := by decide +kernel
theorem d_L_law_696 : decode md_L_law.2.1 696 = .ok (.aload_n 2, 1) := by decide +kernel
theorem d_L_law_697 : decode md_L_law.2.1 697 = .ok (.invokevirtual 88, 3) := by decide +kernel
theorem d_L_law_700 : decode md_L_law.2.1 700 = .ok (.iload 5, 2) := by decide +kernel
theorem d_L_law_702 : decode md_L_law.2.1 702 = .ok (.if_icmp .eq 5, 3) := by decide +kernel
theorem d_L_law_705 : decode md_L_law.2.1 705 = .ok (.iconst 0, 1) := by decide +kernel
theorem d_L_law_706 : decode md_L_law.2.1 706 = .ok (.ireturn, 1) := by decide +kernel
theorem d_L_law_707 : decode md_L_law.2.1 707 = .ok (.goto 704, 3) := by decide +kernel
theorem d_L_law_710 : decode md_L_law.2.1 710 = .ok (.aload_n 1, 1) := by decide +kernel
theorem d_L_law_711 : decode md_L_law.2.1 711 = .ok (.aload_n 0, 1) := by decide +kernel
theorem d_L_law_712 : decode md_L_law.2.1 712 = .ok (.iload 4, 2) := by decide +kernel
theorem d_L_law_714 : decode md_L_law.2.1 714 = .ok (.iconst 1, 1) := by decide +kernel
theorem d_L_law_715 : decode md_L_law.2.1 715 = .ok (.iadd, 1) := by decide +kernel
theorem d_L_law_716 : decode md_L_law.2.1 716 = .ok (.iaload, 1) := by decide +kernel
theorem d_L_law_717 : decode md_L_law.2.1 717 = .ok (.i2l, 1) := by decide +kernel
theorem d_L_law_718 : decode md_L_law.2.1 718 = .ok (.bipush 32, 2) := by decide +kernel
theorem d_L_law_720 : decode md_L_law.2.1 720 = .ok (.lshl, 1) := by decide +kernel
theorem d_L_law_721 : decode md_L_law.2.1 721 = .ok (.aload_n 0, 1) := by decide +kernel
theorem d_L_law_722 : decode md_L_law.2.1 722 = .ok (.iload 4, 2) := by decide +kernel
theorem d_L_law_724 : decode md_L_law.2.1 724 = .ok (.iconst 2, 1) := by decide +kernel
theorem d_L_law_725 : decode md_L_law.2.1 725 = .ok (.iadd, 1) := by decide +kernel
theorem d_L_law_726 : decode md_L_law.2.1 726 = .ok (.iaload, 1) := by decide +kernel
theorem d_L_law_727 : decode md_L_law.2.1 727 = .ok (.i2l, 1) := by decide +kernel
theorem d_L_law_728 : decode md_L_law.2.1 728 = .ok (.ldc2_w 82, 3) := by decide +kernel
theorem d_L_law_731 : decode md_L_law.2.1 731 = .ok (.land, 1) := by decide +kernel
theorem d_L_law_732 : decode md_L_law.2.1 732 = .ok (.lor, 1) := by decide +kernel
theorem d_L_law_733 : decode md_L_law.2.1 733 = .ok (.aload_n 0, 1) := by decide +kernel
theorem d_L_law_734 : decode md_L_law.2.1 734 = .ok (.iload 4, 2) := by decide +kernel
theorem d_L_law_736 : decode md_L_law.2.1 736 = .ok (.iconst 3, 1) := by decide +kernel
theorem d_L_law_737 : decode md_L_law.2.1 737 = .ok (.iadd, 1) := by decide +kernel
theorem d_L_law_738 : decode md_L_law.2.1 738 = .ok (.iaload, 1) := by decide +kernel
theorem d_L_law_739 : decode md_L_law.2.1 739 = .ok (.aload_n 3, 1) := by decide +kernel
theorem d_L_law_740 : decode md_L_law.2.1 740 = .ok (.invokestatic 108, 3) := by decide +kernel
theorem d_L_law_743 : decode md_L_law.2.1 743 = .ok (.istore 5, 2) := by decide +kernel
theorem d_L_law_745 : decode md_L_law.2.1 745 = .ok (.aload_n 2, 1) := by decide +kernel
theorem d_L_law_746 : decode md_L_law.2.1 746 = .ok (.aload_n 0, 1) := by decide +kernel
theorem d_L_law_747 : decode md_L_law.2.1 747 = .ok (.iload 4, 2) := by decide +kernel
theorem d_L_law_749 : decode md_L_law.2.1 749 = .ok (.iconst 1, 1) := by decide +kernel
theorem d_L_law_750 : decode md_L_law.2.1 750 = .ok (.iadd, 1) := by decide +kernel
theorem d_L_law_751 : decode md_L_law.2.1 751 = .ok (.iaload, 1) := by decide +kernel
theorem d_L_law_752 : decode md_L_law.2.1 752 = .ok (.i2l, 1) := by decide +kernel
theorem d_L_law_753 : decode md_L_law.2.1 753 = .ok (.bipush 32, 2) := by decide +kernel
theorem d_L_law_755 : decode md_L_law.2.1 755 = .ok (.lshl, 1) := by decide +kernel
theorem d_L_law_756 : decode md_L_law.2.1 756 = .ok (.aload_n 0, 1) := by decide +kernel
theorem d_L_law_757 : decode md_L_law.2.1 757 = .ok (.iload 4, 2) := by decide +kernel
theorem d_L_law_759 : decode md_L_law.2.1 759 = .ok (.iconst 2, 1) := by decide +kernel
theorem d_L_law_760 : decode md_L_law.2.1 760 = .ok (.iadd, 1) := by decide +kernel
theorem d_L_law_761 : decode md_L_law.2.1 761 = .ok (.iaload, 1) := by decide +kernel
theorem d_L_law_762 : decode md_L_law.2.1 762 = .ok (.i2l, 1) := by decide +kernel
theorem d_L_law_763 : decode md_L_law.2.1 763 = .ok (.ldc2_w 82, 3) := by decide +kernel
theorem d_L_law_766 : decode md_L_law.2.1 766 = .ok (.land, 1) := by decide +kernel
theorem d_L_law_767 : decode md_L_law.2.1 767 = .ok (.lor, 1) := by decide +kernel
theorem d_L_law_768 : decode md_L_law.2.1 768 = .ok (.aload_n 0, 1) := by decide +kernel
theorem d_L_law_769 : decode md_L_law.2.1 769 = .ok (.iload 4, 2) := by decide +kernel
theorem d_L_law_771 : decode md_L_law.2.1 771 = .ok (.iconst 3, 1) := by decide +kernel
theorem d_L_law_772 : decode md_L_law.2.1 772 = .ok (.iadd, 1) := by decide +kernel
theorem d_L_law_773 : decode md_L_law.2.1 773 = .ok (.iaload, 1) := by decide +kernel
theorem d_L_law_774 : decode md_L_law.2.1 774 = .ok (.invokevirtual 111, 3) := by decide +kernel
theorem d_L_law_777 : decode md_L_law.2.1 777 = .ok (.lstore 6, 2) := by decide +kernel
theorem d_L_law_779 : decode md_L_law.2.1 779 = .ok (.aload_n 2, 1) := by decide +kernel
theorem d_L_law_780 : decode md_L_law.2.1 780 = .ok (.invokevirtual 88, 3) := by decide +kernel
theorem d_L_law_783 : decode md_L_law.2.1 783 = .ok (.iload 5, 2) := by decide +kernel
theorem d_L_law_785 : decode md_L_law.2.1 785 = .ok (.if_icmp .eq 5, 3) := by decide +kernel
theorem d_L_law_788 : decode md_L_law.2.1 788 = .ok (.iconst 0, 1) := by decide +kernel
theorem d_L_law_789 : decode md_L_law.2.1 789 = .ok (.ireturn, 1) := by decide +kernel
theorem d_L_law_790 : decode md_L_law.2.1 790 = .ok (.iload 5, 2) := by decide +kernel
theorem d_L_law_792 : decode md_L_law.2.1 792 = .ok (.ifCond .ne 14, 3) := by decide +kernel
theorem d_L_law_795 : decode md_L_law.2.1 795 = .ok (.aload_n 3, 1) := by decide +kernel
theorem d_L_law_796 : decode md_L_law.2.1 796 = .ok (.iconst 0, 1) := by decide +kernel
theorem d_L_law_797 : decode md_L_law.2.1 797 = .ok (.laload, 1) := by decide +kernel
theorem d_L_law_798 : decode md_L_law.2.1 798 = .ok (.lload 6, 2) := by decide +kernel
theorem d_L_law_800 : decode md_L_law.2.1 800 = .ok (.lcmp, 1) := by decide +kernel
theorem d_L_law_801 : decode md_L_law.2.1 801 = .ok (.ifCond .eq 5, 3) := by decide +kernel
theorem d_L_law_804 : decode md_L_law.2.1 804 = .ok (.iconst 0, 1) := by decide +kernel
theorem d_L_law_805 : decode md_L_law.2.1 805 = .ok (.ireturn, 1) := by decide +kernel
theorem d_L_law_806 : decode md_L_law.2.1 806 = .ok (.goto 605, 3) := by decide +kernel
theorem d_L_law_809 : decode md_L_law.2.1 809 = .ok (.aload_n 1, 1) := by decide +kernel
theorem d_L_law_810 : decode md_L_law.2.1 810 = .ok (.aload_n 0, 1) := by decide +kernel
theorem d_L_law_811 : decode md_L_law.2.1 811 = .ok (.iload 4, 2) := by decide +kernel
theorem d_L_law_813 : decode md_L_law.2.1 813 = .ok (.iconst 1, 1) := by decide +kernel
theorem d_L_law_814 : decode md_L_law.2.1 814 = .ok (.iadd, 1) := by decide +kernel
theorem d_L_law_815 : decode md_L_law.2.1 815 = .ok (.iaload, 1) := by decide +kernel
theorem d_L_law_816 : decode md_L_law.2.1 816 = .ok (.i2l, 1) := by decide +kernel
theorem d_L_law_817 : decode md_L_law.2.1 817 = .ok (.bipush 32, 2) := by decide +kernel
theorem d_L_law_819 : decode md_L_law.2.1 819 = .ok (.lshl, 1) := by decide +kernel
theorem d_L_law_820 : decode md_L_law.2.1 820 = .ok (.aload_n 0, 1) := by decide +kernel
theorem d_L_law_821 : decode md_L_law.2.1 821 = .ok (.iload 4, 2) := by decide +kernel
theorem d_L_law_823 : decode md_L_law.2.1 823 = .ok (.iconst 2, 1) := by decide +kernel
theorem d_L_law_824 : decode md_L_law.2.1 824 = .ok (.iadd, 1) := by decide +kernel
theorem d_L_law_825 : decode md_L_law.2.1 825 = .ok (.iaload, 1) := by decide +kernel
theorem d_L_law_826 : decode md_L_law.2.1 826 = .ok (.i2l, 1) := by decide +kernel
theorem d_L_law_827 : decode md_L_law.2.1 827 = .ok (.ldc2_w 82, 3) := by decide +kernel
theorem d_L_law_830 : decode md_L_law.2.1 830 = .ok (.land, 1) := by decide +kernel
theorem d_L_law_831 : decode md_L_law.2.1 831 = .ok (.lor, 1) := by decide +kernel
theorem d_L_law_832 : decode md_L_law.2.1 832 = .ok (.aload_n 0, 1) := by decide +kernel
theorem d_L_law_833 : decode md_L_law.2.1 833 = .ok (.iload 4, 2) := by decide +kernel
theorem d_L_law_835 : decode md_L_law.2.1 835 = .ok (.iconst 3, 1) := by decide +kernel
theorem d_L_law_836 : decode md_L_law.2.1 836 = .ok (.iadd, 1) := by decide +kernel
theorem d_L_law_837 : decode md_L_law.2.1 837 = .ok (.iaload, 1) := by decide +kernel
theorem d_L_law_838 : decode md_L_law.2.1 838 = .ok (.aload_n 3, 1) := by decide +kernel
theorem d_L_law_839 : decode md_L_law.2.1 839 = .ok (.invokestatic 112, 3) := by decide +kernel
theorem d_L_law_842 : decode md_L_law.2.1 842 = .ok (.istore 5, 2) := by decide +kernel
theorem d_L_law_844 : decode md_L_law.2.1 844 = .ok (.aload_n 2, 1) := by decide +kernel
theorem d_L_law_845 : decode md_L_law.2.1 845 = .ok (.aload_n 0, 1) := by decide +kernel
theorem d_L_law_846 : decode md_L_law.2.1 846 = .ok (.iload 4, 2) := by decide +kernel
theorem d_L_law_848 : decode md_L_law.2.1 848 = .ok (.iconst 1, 1) := by decide +kernel
theorem d_L_law_849 : decode md_L_law.2.1 849 = .ok (.iadd, 1) := by decide +kernel
theorem d_L_law_850 : decode md_L_law.2.1 850 = .ok (.iaload, 1) := by decide +kernel
theorem d_L_law_851 : decode md_L_law.2.1 851 = .ok (.i2l, 1) := by decide +kernel
theorem d_L_law_852 : decode md_L_law.2.1 852 = .ok (.bipush 32, 2) := by decide +kernel
theorem d_L_law_854 : decode md_L_law.2.1 854 = .ok (.lshl, 1) := by decide +kernel
theorem d_L_law_855 : decode md_L_law.2.1 855 = .ok (.aload_n 0, 1) := by decide +kernel
theorem d_L_law_856 : decode md_L_law.2.1 856 = .ok (.iload 4, 2) := by decide +kernel
theorem d_L_law_858 : decode md_L_law.2.1 858 = .ok (.iconst 2, 1) := by decide +kernel
theorem d_L_law_859 : decode md_L_law.2.1 859 = .ok (.iadd, 1) := by decide +kernel
theorem d_L_law_860 : decode md_L_law.2.1 860 = .ok (.iaload, 1) := by decide +kernel
theorem d_L_law_861 : decode md_L_law.2.1 861 = .ok (.i2l, 1) := by decide +kernel
theorem d_L_law_862 : decode md_L_law.2.1 862 = .ok (.ldc2_w 82, 3) := by decide +kernel
theorem d_L_law_865 : decode md_L_law.2.1 865 = .ok (.land, 1) := by decide +kernel
theorem d_L_law_866 : decode md_L_law.2.1 866 = .ok (.lor, 1) := by decide +kernel
theorem d_L_law_867 : decode md_L_law.2.1 867 = .ok (.aload_n 0, 1) := by decide +kernel
theorem d_L_law_868 : decode md_L_law.2.1 868 = .ok (.iload 4, 2) := by decide +kernel
theorem d_L_law_870 : decode md_L_law.2.1 870 = .ok (.iconst 3, 1) := by decide +kernel
theorem d_L_law_871 : decode md_L_law.2.1 871 = .ok (.iadd, 1) := by decide +kernel
theorem d_L_law_872 : decode md_L_law.2.1 872 = .ok (.iaload, 1) := by decide +kernel
theorem d_L_law_873 : decode md_L_law.2.1 873 = .ok (.invokevirtual 114, 3) := by decide +kernel
theorem d_L_law_876 : decode md_L_law.2.1 876 = .ok (.istore 6, 2) := by decide +kernel
theorem d_L_law_878 : decode md_L_law.2.1 878 = .ok (.aload_n 2, 1) := by decide +kernel
theorem d_L_law_879 : decode md_L_law.2.1 879 = .ok (.invokevirtual 88, 3) := by decide +kernel
theorem d_L_law_882 : decode md_L_law.2.1 882 = .ok (.iload 5, 2) := by decide +kernel
theorem d_L_law_884 : decode md_L_law.2.1 884 = .ok (.if_icmp .eq 5, 3) := by decide +kernel
theorem d_L_law_887 : decode md_L_law.2.1 887 = .ok (.iconst 0, 1) := by decide +kernel
theorem d_L_law_888 : decode md_L_law.2.1 888 = .ok (.ireturn, 1) := by decide +kernel
theorem d_L_law_889 : decode md_L_law.2.1 889 = .ok (.iload 5, 2) := by decide +kernel
theorem d_L_law_891 : decode md_L_law.2.1 891 = .ok (.ifCond .ne 15, 3) := by decide +kernel
theorem d_L_law_894 : decode md_L_law.2.1 894 = .ok (.aload_n 3, 1) := by decide +kernel
theorem d_L_law_895 : decode md_L_law.2.1 895 = .ok (.iconst 0, 1) := by decide +kernel
theorem d_L_law_896 : decode md_L_law.2.1 896 = .ok (.laload, 1) := by decide +kernel
theorem d_L_law_897 : decode md_L_law.2.1 897 = .ok (.iload 6, 2) := by decide +kernel
theorem d_L_law_899 : decode md_L_law.2.1 899 = .ok (.i2l, 1) := by decide +kernel
theorem d_L_law_900 : decode md_L_law.2.1 900 = .ok (.lcmp, 1) := by decide +kernel
theorem d_L_law_901 : decode md_L_law.2.1 901 = .ok (.ifCond .eq 5, 3) := by decide +kernel
theorem d_L_law_904 : decode md_L_law.2.1 904 = .ok (.iconst 0, 1) := by decide +kernel
theorem d_L_law_905 : decode md_L_law.2.1 905 = .ok (.ireturn, 1) := by decide +kernel
theorem d_L_law_906 : decode md_L_law.2.1 906 = .ok (.goto 505, 3) := by decide +kernel
theorem d_L_law_909 : decode md_L_law.2.1 909 = .ok (.aload_n 1, 1) := by decide +kernel
theorem d_L_law_910 : decode md_L_law.2.1 910 = .ok (.aload_n 0, 1) := by decide +kernel
theorem d_L_law_911 : decode md_L_law.2.1 911 = .ok (.iload 4, 2) := by decide +kernel
theorem d_L_law_913 : decode md_L_law.2.1 913 = .ok (.iconst 1, 1) := by decide +kernel
theorem d_L_law_914 : decode md_L_law.2.1 914 = .ok (.iadd, 1) := by decide +kernel
theorem d_L_law_915 : decode md_L_law.2.1 915 = .ok (.iaload, 1) := by decide +kernel
theorem d_L_law_916 : decode md_L_law.2.1 916 = .ok (.i2l, 1) := by decide +kernel
theorem d_L_law_917 : decode md_L_law.2.1 917 = .ok (.bipush 32, 2) := by decide +kernel
theorem d_L_law_919 : decode md_L_law.2.1 919 = .ok (.lshl, 1) := by decide +kernel
theorem d_L_law_920 : decode md_L_law.2.1 920 = .ok (.aload_n 0, 1) := by decide +kernel
theorem d_L_law_921 : decode md_L_law.2.1 921 = .ok (.iload 4, 2) := by decide +kernel
theorem d_L_law_923 : decode md_L_law.2.1 923 = .ok (.iconst 2, 1) := by decide +kernel
theorem d_L_law_924 : decode md_L_law.2.1 924 = .ok (.iadd, 1) := by decide +kernel
theorem d_L_law_925 : decode md_L_law.2.1 925 = .ok (.iaload, 1) := by decide +kernel
theorem d_L_law_926 : decode md_L_law.2.1 926 = .ok (.i2l, 1) := by decide +kernel
end
section
theorem d_L_law_927 : decode md_L_law.2.1 927 = .ok (.ldc2_w 82, 3) := by decide +kernel
theorem d_L_law_930 : decode md_L_law.2.1 930 = .ok (.land, 1) := by decide +kernel
theorem d_L_law_931 : decode md_L_law.2.1 931 = .ok (.lor, 1) := by decide +kernel
theorem d_L_law_932 : decode md_L_law.2.1 932 = .ok (.aload_n 0, 1) := by decide +kernel
theorem d_L_law_933 : decode md_L_law.2.1 933 = .ok (.iload 4, 2) := by decide +kernel
theorem d_L_law_935 : decode md_L_law.2.1 935 = .ok (.iconst 3, 1) := by decide +kernel
theorem d_L_law_936 : decode md_L_law.2.1 936 = .ok (.iadd, 1) := by decide +kernel
theorem d_L_law_937 : decode md_L_law.2.1 937 = .ok (.iaload, 1) := by decide +kernel
theorem d_L_law_938 : decode md_L_law.2.1 938 = .ok (.aload_n 0, 1) := by decide +kernel
theorem d_L_law_939 : decode md_L_law.2.1 939 = .ok (.iload 4, 2) := by decide +kernel
theorem d_L_law_941 : decode md_L_law.2.1 941 = .ok (.iconst 4, 1) := by decide +kernel
theorem d_L_law_942 : decode md_L_law.2.1 942 = .ok (.iadd, 1) := by decide +kernel
theorem d_L_law_943 : decode md_L_law.2.1 943 = .ok (.iaload, 1) := by decide +kernel
theorem d_L_law_944 : decode md_L_law.2.1 944 = .ok (.aload_n 3, 1) := by decide +kernel
theorem d_L_law_945 : decode md_L_law.2.1 945 = .ok (.invokestatic 115, 3) := by decide +kernel
theorem d_L_law_948 : decode md_L_law.2.1 948 = .ok (.istore 5, 2) := by decide +kernel
theorem d_L_law_950 : decode md_L_law.2.1 950 = .ok (.aload_n 2, 1) := by decide +kernel
theorem d_L_law_951 : decode md_L_law.2.1 951 = .ok (.aload_n 0, 1) := by decide +kernel
theorem d_L_law_952 : decode md_L_law.2.1 952 = .ok (.iload 4, 2) := by decide +kernel
theorem d_L_law_954 : decode md_L_law.2.1 954 = .ok (.iconst 1, 1) := by decide +kernel
theorem d_L_law_955 : decode md_L_law.2.1 955 = .ok (.iadd, 1) := by decide +kernel
theorem d_L_law_956 : decode md_L_law.2.1 956 = .ok (.iaload, 1) := by decide +kernel
theorem d_L_law_957 : decode md_L_law.2.1 957 = .ok (.i2l, 1) := by decide +kernel
theorem d_L_law_958 : decode md_L_law.2.1 958 = .ok (.bipush 32, 2) := by decide +kernel
theorem d_L_law_960 : decode md_L_law.2.1 960 = .ok (.lshl, 1) := by decide +kernel
theorem d_L_law_961 : decode md_L_law.2.1 961 = .ok (.aload_n 0, 1) := by decide +kernel
theorem d_L_law_962 : decode md_L_law.2.1 962 = .ok (.iload 4, 2) := by decide +kernel
theorem d_L_law_964 : decode md_L_law.2.1 964 = .ok (.iconst 2, 1) := by decide +kernel
theorem d_L_law_965 : decode md_L_law.2.1 965 = .ok (.iadd, 1) := by decide +kernel
theorem d_L_law_966 : decode md_L_law.2.1 966 = .ok (.iaload, 1) := by decide +kernel
theorem d_L_law_967 : decode md_L_law.2.1 967 = .ok (.i2l, 1) := by decide +kernel
theorem d_L_law_968 : decode md_L_law.2.1 968 = .ok (.ldc2_w 82, 3) := by decide +kernel
theorem d_L_law_971 : decode md_L_law.2.1 971 = .ok (.land, 1) := by decide +kernel
theorem d_L_law_972 : decode md_L_law.2.1 972 = .ok (.lor, 1) := by decide +kernel
theorem d_L_law_973 : decode md_L_law.2.1 973 = .ok (.aload_n 0, 1) := by decide +kernel
theorem d_L_law_974 : decode md_L_law.2.1 974 = .ok (.iload 4, 2) := by decide +kernel
theorem d_L_law_976 : decode md_L_law.2.1 976 = .ok (.iconst 3, 1) := by decide +kernel
theorem d_L_law_977 : decode md_L_law.2.1 977 = .ok (.iadd, 1) := by decide +kernel
theorem d_L_law_978 : decode md_L_law.2.1 978 = .ok (.iaload, 1) := by decide +kernel
theorem d_L_law_979 : decode md_L_law.2.1 979 = .ok (.aload_n 0, 1) := by decide +kernel
theorem d_L_law_980 : decode md_L_law.2.1 980 = .ok (.iload 4, 2) := by decide +kernel
theorem d_L_law_982 : decode md_L_law.2.1 982 = .ok (.iconst 4, 1) := by decide +kernel
theorem d_L_law_983 : decode md_L_law.2.1 983 = .ok (.iadd, 1) := by decide +kernel
theorem d_L_law_984 : decode md_L_law.2.1 984 = .ok (.iaload, 1) := by decide +kernel
theorem d_L_law_985 : decode md_L_law.2.1 985 = .ok (.invokevirtual 118, 3) := by decide +kernel
theorem d_L_law_988 : decode md_L_law.2.1 988 = .ok (.lstore 6, 2) := by decide +kernel
theorem d_L_law_990 : decode md_L_law.2.1 990 = .ok (.aload_n 2, 1) := by decide +kernel
theorem d_L_law_991 : decode md_L_law.2.1 991 = .ok (.invokevirtual 88, 3) := by decide +kernel
theorem d_L_law_994 : decode md_L_law.2.1 994 = .ok (.iload 5, 2) := by decide +kernel
theorem d_L_law_996 : decode md_L_law.2.1 996 = .ok (.if_icmp .eq 5, 3) := by decide +kernel
theorem d_L_law_999 : decode md_L_law.2.1 999 = .ok (.iconst 0, 1) := by decide +kernel
theorem d_L_law_1000 : decode md_L_law.2.1 1000 = .ok (.ireturn, 1) := by decide +kernel
theorem d_L_law_1001 : decode md_L_law.2.1 1001 = .ok (.iload 5, 2) := by decide +kernel
theorem d_L_law_1003 : decode md_L_law.2.1 1003 = .ok (.ifCond .ne 14, 3) := by decide +kernel
theorem d_L_law_1006 : decode md_L_law.2.1 1006 = .ok (.aload_n 3, 1) := by decide +kernel
theorem d_L_law_1007 : decode md_L_law.2.1 1007 = .ok (.iconst 0, 1) := by decide +kernel
theorem d_L_law_1008 : decode md_L_law.2.1 1008 = .ok (.laload, 1) := by decide +kernel
theorem d_L_law_1009 : decode md_L_law.2.1 1009 = .ok (.lload 6, 2) := by decide +kernel
theorem d_L_law_1011 : decode md_L_law.2.1 1011 = .ok (.lcmp, 1) := by decide +kernel
theorem d_L_law_1012 : decode md_L_law.2.1 1012 = .ok (.ifCond .eq 5, 3) := by decide +kernel
theorem d_L_law_1015 : decode md_L_law.2.1 1015 = .ok (.iconst 0, 1) := by decide +kernel
theorem d_L_law_1016 : decode md_L_law.2.1 1016 = .ok (.ireturn, 1) := by decide +kernel
theorem d_L_law_1017 : decode md_L_law.2.1 1017 = .ok (.goto 394, 3) := by decide +kernel
theorem d_L_law_1020 : decode md_L_law.2.1 1020 = .ok (.aload_n 1, 1) := by decide +kernel
theorem d_L_law_1021 : decode md_L_law.2.1 1021 = .ok (.aload_n 0, 1) := by decide +kernel
theorem d_L_law_1022 : decode md_L_law.2.1 1022 = .ok (.iload 4, 2) := by decide +kernel
theorem d_L_law_1024 : decode md_L_law.2.1 1024 = .ok (.iconst 1, 1) := by decide +kernel
theorem d_L_law_1025 : decode md_L_law.2.1 1025 = .ok (.iadd, 1) := by decide +kernel
theorem d_L_law_1026 : decode md_L_law.2.1 1026 = .ok (.iaload, 1) := by decide +kernel
theorem d_L_law_1027 : decode md_L_law.2.1 1027 = .ok (.aload_n 0, 1) := by decide +kernel
theorem d_L_law_1028 : decode md_L_law.2.1 1028 = .ok (.iload 4, 2) := by decide +kernel
theorem d_L_law_1030 : decode md_L_law.2.1 1030 = .ok (.iconst 2, 1) := by decide +kernel
theorem d_L_law_1031 : decode md_L_law.2.1 1031 = .ok (.iadd, 1) := by decide +kernel
theorem d_L_law_1032 : decode md_L_law.2.1 1032 = .ok (.iaload, 1) := by decide +kernel
theorem d_L_law_1033 : decode md_L_law.2.1 1033 = .ok (.aload_n 3, 1) := by decide +kernel
theorem d_L_law_1034 : decode md_L_law.2.1 1034 = .ok (.invokestatic 119, 3) := by decide +kernel
theorem d_L_law_1037 : decode md_L_law.2.1 1037 = .ok (.istore 5, 2) := by decide +kernel
theorem d_L_law_1039 : decode md_L_law.2.1 1039 = .ok (.aload_n 2, 1) := by decide +kernel
theorem d_L_law_1040 : decode md_L_law.2.1 1040 = .ok (.aload_n 0, 1) := by decide +kernel
theorem d_L_law_1041 : decode md_L_law.2.1 1041 = .ok (.iload 4, 2) := by decide +kernel
theorem d_L_law_1043 : decode md_L_law.2.1 1043 = .ok (.iconst 1, 1) := by decide +kernel
theorem d_L_law_1044 : decode md_L_law.2.1 1044 = .ok (.iadd, 1) := by decide +kernel
theorem d_L_law_1045 : decode md_L_law.2.1 1045 = .ok (.iaload, 1) := by decide +kernel
theorem d_L_law_1046 : decode md_L_law.2.1 1046 = .ok (.aload_n 0, 1) := by decide +kernel
theorem d_L_law_1047 : decode md_L_law.2.1 1047 = .ok (.iload 4, 2) := by decide +kernel
theorem d_L_law_1049 : decode md_L_law.2.1 1049 = .ok (.iconst 2, 1) := by decide +kernel
theorem d_L_law_1050 : decode md_L_law.2.1 1050 = .ok (.iadd, 1) := by decide +kernel
theorem d_L_law_1051 : decode md_L_law.2.1 1051 = .ok (.iaload, 1) := by decide +kernel
theorem d_L_law_1052 : decode md_L_law.2.1 1052 = .ok (.invokevirtual 121, 3) := by decide +kernel
theorem d_L_law_1055 : decode md_L_law.2.1 1055 = .ok (.lstore 6, 2) := by decide +kernel
theorem d_L_law_1057 : decode md_L_law.2.1 1057 = .ok (.aload_n 2, 1) := by decide +kernel
theorem d_L_law_1058 : decode md_L_law.2.1 1058 = .ok (.invokevirtual 88, 3) := by decide +kernel
theorem d_L_law_1061 : decode md_L_law.2.1 1061 = .ok (.iload 5, 2) := by decide +kernel
theorem d_L_law_1063 : decode md_L_law.2.1 1063 = .ok (.if_icmp .eq 5, 3) := by decide +kernel
theorem d_L_law_1066 : decode md_L_law.2.1 1066 = .ok (.iconst 0, 1) := by decide +kernel
theorem d_L_law_1067 : decode md_L_law.2.1 1067 = .ok (.ireturn, 1) := by decide +kernel
theorem d_L_law_1068 : decode md_L_law.2.1 1068 = .ok (.iload 5, 2) := by decide +kernel
theorem d_L_law_1070 : decode md_L_law.2.1 1070 = .ok (.ifCond .ne 14, 3) := by decide +kernel
theorem d_L_law_1073 : decode md_L_law.2.1 1073 = .ok (.aload_n 3, 1) := by decide +kernel
theorem d_L_law_1074 : decode md_L_law.2.1 1074 = .ok (.iconst 0, 1) := by decide +kernel
theorem d_L_law_1075 : decode md_L_law.2.1 1075 = .ok (.laload, 1) := by decide +kernel
theorem d_L_law_1076 : decode md_L_law.2.1 1076 = .ok (.lload 6, 2) := by decide +kernel
theorem d_L_law_1078 : decode md_L_law.2.1 1078 = .ok (.lcmp, 1) := by decide +kernel
theorem d_L_law_1079 : decode md_L_law.2.1 1079 = .ok (.ifCond .eq 5, 3) := by decide +kernel
theorem d_L_law_1082 : decode md_L_law.2.1 1082 = .ok (.iconst 0, 1) := by decide +kernel
theorem d_L_law_1083 : decode md_L_law.2.1 1083 = .ok (.ireturn, 1) := by decide +kernel
theorem d_L_law_1084 : decode md_L_law.2.1 1084 = .ok (.goto 327, 3) := by decide +kernel
theorem d_L_law_1087 : decode md_L_law.2.1 1087 = .ok (.aload_n 1, 1) := by decide +kernel
theorem d_L_law_1088 : decode md_L_law.2.1 1088 = .ok (.aload_n 0, 1) := by decide +kernel
theorem d_L_law_1089 : decode md_L_law.2.1 1089 = .ok (.iload 4, 2) := by decide +kernel
theorem d_L_law_1091 : decode md_L_law.2.1 1091 = .ok (.iconst 1, 1) := by decide +kernel
theorem d_L_law_1092 : decode md_L_law.2.1 1092 = .ok (.iadd, 1) := by decide +kernel
theorem d_L_law_1093 : decode md_L_law.2.1 1093 = .ok (.iaload, 1) := by decide +kernel
theorem d_L_law_1094 : decode md_L_law.2.1 1094 = .ok (.aload_n 0, 1) := by decide +kernel
theorem d_L_law_1095 : decode md_L_law.2.1 1095 = .ok (.iload 4, 2) := by decide +kernel
theorem d_L_law_1097 : decode md_L_law.2.1 1097 = .ok (.iconst 2, 1) := by decide +kernel
theorem d_L_law_1098 : decode md_L_law.2.1 1098 = .ok (.iadd, 1) := by decide +kernel
theorem d_L_law_1099 : decode md_L_law.2.1 1099 = .ok (.iaload, 1) := by decide +kernel
theorem d_L_law_1100 : decode md_L_law.2.1 1100 = .ok (.aload_n 3, 1) := by decide +kernel
theorem d_L_law_1101 : decode md_L_law.2.1 1101 = .ok (.invokestatic 122, 3) := by decide +kernel
theorem d_L_law_1104 : decode md_L_law.2.1 1104 = .ok (.istore 5, 2) := by decide +kernel
theorem d_L_law_1106 : decode md_L_law.2.1 1106 = .ok (.aload_n 2, 1) := by decide +kernel
theorem d_L_law_1107 : decode md_L_law.2.1 1107 = .ok (.aload_n 0, 1) := by decide +kernel
theorem d_L_law_1108 : decode md_L_law.2.1 1108 = .ok (.iload 4, 2) := by decide +kernel
theorem d_L_law_1110 : decode md_L_law.2.1 1110 = .ok (.iconst 1, 1) := by decide +kernel
theorem d_L_law_1111 : decode md_L_law.2.1 1111 = .ok (.iadd, 1) := by decide +kernel
theorem d_L_law_1112 : decode md_L_law.2.1 1112 = .ok (.iaload, 1) := by decide +kernel
theorem d_L_law_1113 : decode md_L_law.2.1 1113 = .ok (.aload_n 0, 1) := by decide +kernel
theorem d_L_law_1114 : decode md_L_law.2.1 1114 = .ok (.iload 4, 2) := by decide +kernel
theorem d_L_law_1116 : decode md_L_law.2.1 1116 = .ok (.iconst 2, 1) := by decide +kernel
theorem d_L_law_1117 : decode md_L_law.2.1 1117 = .ok (.iadd, 1) := by decide +kernel
theorem d_L_law_1118 : decode md_L_law.2.1 1118 = .ok (.iaload, 1) := by decide +kernel
theorem d_L_law_1119 : decode md_L_law.2.1 1119 = .ok (.invokevirtual 124, 3) := by decide +kernel
theorem d_L_law_1122 : decode md_L_law.2.1 1122 = .ok (.lstore 6, 2) := by decide +kernel
theorem d_L_law_1124 : decode md_L_law.2.1 1124 = .ok (.aload_n 2, 1) := by decide +kernel
theorem d_L_law_1125 : decode md_L_law.2.1 1125 = .ok (.invokevirtual 88, 3) := by decide +kernel
theorem d_L_law_1128 : decode md_L_law.2.1 1128 = .ok (.iload 5, 2) := by decide +kernel
theorem d_L_law_1130 : decode md_L_law.2.1 1130 = .ok (.if_icmp .eq 5, 3) := by decide +kernel
theorem d_L_law_1133 : decode md_L_law.2.1 1133 = .ok (.iconst 0, 1) := by decide +kernel
theorem d_L_law_1134 : decode md_L_law.2.1 1134 = .ok (.ireturn, 1) := by decide +kernel
theorem d_L_law_1135 : decode md_L_law.2.1 1135 = .ok (.iload 5, 2) := by decide +kernel
theorem d_L_law_1137 : decode md_L_law.2.1 1137 = .ok (.ifCond .ne 14, 3) := by decide +kernel
theorem d_L_law_1140 : decode md_L_law.2.1 1140 = .ok (.aload_n 3, 1) := by decide +kernel
theorem d_L_law_1141 : decode md_L_law.2.1 1141 = .ok (.iconst 0, 1) := by decide +kernel
theorem d_L_law_1142 : decode md_L_law.2.1 1142 = .ok (.laload, 1) := by decide +kernel
theorem d_L_law_1143 : decode md_L_law.2.1 1143 = .ok (.lload 6, 2) := by decide +kernel
theorem d_L_law_1145 : decode md_L_law.2.1 1145 = .ok (.lcmp, 1) := by decide +kernel
theorem d_L_law_1146 : decode md_L_law.2.1 1146 = .ok (.ifCond .eq 5, 3) := by decide +kernel
theorem d_L_law_1149 : decode md_L_law.2.1 1149 = .ok (.iconst 0, 1) := by decide +kernel
theorem d_L_law_1150 : decode md_L_law.2.1 1150 = .ok (.ireturn, 1) := by decide +kernel
theorem d_L_law_1151 : decode md_L_law.2.1 1151 = .ok (.goto 260, 3) := by decide +kernel
theorem d_L_law_1154 : decode md_L_law.2.1 1154 = .ok (.aload_n 1, 1) := by decide +kernel
theorem d_L_law_1155 : decode md_L_law.2.1 1155 = .ok (.aload_n 3, 1) := by decide +kernel
theorem d_L_law_1156 : decode md_L_law.2.1 1156 = .ok (.invokestatic 125, 3) := by decide +kernel
theorem d_L_law_1159 : decode md_L_law.2.1 1159 = .ok (.istore 5, 2) := by decide +kernel
theorem d_L_law_1161 : decode md_L_law.2.1 1161 = .ok (.aload_n 2, 1) := by decide +kernel
theorem d_L_law_1162 : decode md_L_law.2.1 1162 = .ok (.invokevirtual 128, 3) := by decide +kernel
theorem d_L_law_1165 : decode md_L_law.2.1 1165 = .ok (.lstore 6, 2) := by decide +kernel
theorem d_L_law_1167 : decode md_L_law.2.1 1167 = .ok (.aload_n 2, 1) := by decide +kernel
theorem d_L_law_1168 : decode md_L_law.2.1 1168 = .ok (.invokevirtual 88, 3) := by decide +kernel
theorem d_L_law_1171 : decode md_L_law.2.1 1171 = .ok (.iload 5, 2) := by decide +kernel
theorem d_L_law_1173 : decode md_L_law.2.1 1173 = .ok (.if_icmp .eq 5, 3) := by decide +kernel
theorem d_L_law_1176 : decode md_L_law.2.1 1176 = .ok (.iconst 0, 1) := by decide +kernel
theorem d_L_law_1177 : decode md_L_law.2.1 1177 = .ok (.ireturn, 1) := by decide +kernel
theorem d_L_law_1178 : decode md_L_law.2.1 1178 = .ok (.iload 5, 2) := by decide +kernel
theorem d_L_law_1180 : decode md_L_law.2.1 1180 = .ok (.ifCond .ne 14, 3) := by decide +kernel
theorem d_L_law_1183 : decode md_L_law.2.1 1183 = .ok (.aload_n 3, 1) := by decide +kernel
theorem d_L_law_1184 : decode md_L_law.2.1 1184 = .ok (.iconst 0, 1) := by decide +kernel
theorem d_L_law_1185 : decode md_L_law.2.1 1185 = .ok (.laload, 1) := by decide +kernel
theorem d_L_law_1186 : decode md_L_law.2.1 1186 = .ok (.lload 6, 2) := by decide +kernel
theorem d_L_law_1188 : decode md_L_law.2.1 1188 = .ok (.lcmp, 1) := by decide +kernel
theorem d_L_law_1189 : decode md_L_law.2.1 1189 = .ok (.ifCond .eq 5, 3) := by decide +kernel
theorem d_L_law_1192 : decode md_L_law.2.1 1192 = .ok (.iconst 0, 1) := by decide +kernel
theorem d_L_law_1193 : decode md_L_law.2.1 1193 = .ok (.ireturn, 1) := by decide +kernel
theorem d_L_law_1194 : decode md_L_law.2.1 1194 = .ok (.goto 217, 3) := by decide +kernel
theorem d_L_law_1197 : decode md_L_law.2.1 1197 = .ok (.aload_n 1, 1) := by decide +kernel
theorem d_L_law_1198 : decode md_L_law.2.1 1198 = .ok (.aload_n 0, 1) := by decide +kernel
theorem d_L_law_1199 : decode md_L_law.2.1 1199 = .ok (.iload 4, 2) := by decide +kernel
theorem d_L_law_1201 : decode md_L_law.2.1 1201 = .ok (.iconst 1, 1) := by decide +kernel
theorem d_L_law_1202 : decode md_L_law.2.1 1202 = .ok (.iadd, 1) := by decide +kernel
theorem d_L_law_1203 : decode md_L_law.2.1 1203 = .ok (.iaload, 1) := by decide +kernel
theorem d_L_law_1204 : decode md_L_law.2.1 1204 = .ok (.aload_n 3, 1) := by decide +kernel
theorem d_L_law_1205 : decode md_L_law.2.1 1205 = .ok (.invokestatic 129, 3) := by decide +kernel
theorem d_L_law_1208 : decode md_L_law.2.1 1208 = .ok (.istore 5, 2) := by decide +kernel
theorem d_L_law_1210 : decode md_L_law.2.1 1210 = .ok (.aload_n 2, 1) := by decide +kernel
theorem d_L_law_1211 : decode md_L_law.2.1 1211 = .ok (.aload_n 0, 1) := by decide +kernel
theorem d_L_law_1212 : decode md_L_law.2.1 1212 = .ok (.iload 4, 2) := by decide +kernel
theorem d_L_law_1214 : decode md_L_law.2.1 1214 = .ok (.iconst 1, 1) := by decide +kernel
theorem d_L_law_1215 : decode md_L_law.2.1 1215 = .ok (.iadd, 1) := by decide +kernel
theorem d_L_law_1216 : decode md_L_law.2.1 1216 = .ok (.iaload, 1) := by decide +kernel
theorem d_L_law_1217 : decode md_L_law.2.1 1217 = .ok (.invokevirtual 132, 3) := by decide +kernel
theorem d_L_law_1220 : decode md_L_law.2.1 1220 = .ok (.istore 6, 2) := by decide +kernel
theorem d_L_law_1222 : decode md_L_law.2.1 1222 = .ok (.aload_n 2, 1) := by decide +kernel
theorem d_L_law_1223 : decode md_L_law.2.1 1223 = .ok (.invokevirtual 88, 3) := by decide +kernel
theorem d_L_law_1226 : decode md_L_law.2.1 1226 = .ok (.iload 5, 2) := by decide +kernel
theorem d_L_law_1228 : decode md_L_law.2.1 1228 = .ok (.if_icmp .eq 5, 3) := by decide +kernel
theorem d_L_law_1231 : decode md_L_law.2.1 1231 = .ok (.iconst 0, 1) := by decide +kernel
theorem d_L_law_1232 : decode md_L_law.2.1 1232 = .ok (.ireturn, 1) := by decide +kernel
theorem d_L_law_1233 : decode md_L_law.2.1 1233 = .ok (.iload 5, 2) := by decide +kernel
theorem d_L_law_1235 : decode md_L_law.2.1 1235 = .ok (.ifCond .ne 15, 3) := by decide +kernel
theorem d_L_law_1238 : decode md_L_law.2.1 1238 = .ok (.aload_n 3, 1) := by decide +kernel
theorem d_L_law_1239 : decode md_L_law.2.1 1239 = .ok (.iconst 0, 1) := by decide +kernel
theorem d_L_law_1240 : decode md_L_law.2.1 1240 = .ok (.laload, 1) := by decide +kernel
theorem d_L_law_1241 : decode md_L_law.2.1 1241 = .ok (.iload 6, 2) := by decide +kernel
theorem d_L_law_1243 : decode md_L_law.2.1 1243 = .ok (.i2l, 1) := by decide +kernel
theorem d_L_law_1244 : decode md_L_law.2.1 1244 = .ok (.lcmp, 1) := by decide +kernel
theorem d_L_law_1245 : decode md_L_law.2.1 1245 = .ok (.ifCond .eq 5, 3) := by decide +kernel
theorem d_L_law_1248 : decode md_L_law.2.1 1248 = .ok (.iconst 0, 1) := by decide +kernel
theorem d_L_law_1249 : decode md_L_law.2.1 1249 = .ok (.ireturn, 1) := by decide +kernel
theorem d_L_law_1250 : decode md_L_law.2.1 1250 = .ok (.goto 161, 3) := by decide +kernel
theorem d_L_law_1253 : decode md_L_law.2.1 1253 = .ok (.aload_n 1, 1) := by decide +kernel
theorem d_L_law_1254 : decode md_L_law.2.1 1254 = .ok (.aload_n 0, 1) := by decide +kernel
theorem d_L_law_1255 : decode md_L_law.2.1 1255 = .ok (.iload 4, 2) := by decide +kernel
theorem d_L_law_1257 : decode md_L_law.2.1 1257 = .ok (.iconst 1, 1) := by decide +kernel
theorem d_L_law_1258 : decode md_L_law.2.1 1258 = .ok (.iadd, 1) := by decide +kernel
theorem d_L_law_1259 : decode md_L_law.2.1 1259 = .ok (.iaload, 1) := by decide +kernel
theorem d_L_law_1260 : decode md_L_law.2.1 1260 = .ok (.i2l, 1) := by decide +kernel
theorem d_L_law_1261 : decode md_L_law.2.1 1261 = .ok (.bipush 32, 2) := by decide +kernel
theorem d_L_law_1263 : decode md_L_law.2.1 1263 = .ok (.lshl, 1) := by decide +kernel
theorem d_L_law_1264 : decode md_L_law.2.1 1264 = .ok (.aload_n 0, 1) := by decide +kernel
theorem d_L_law_1265 : decode md_L_law.2.1 1265 = .ok (.iload 4, 2) := by decide +kernel
theorem d_L_law_1267 : decode md_L_law.2.1 1267 = .ok (.iconst 2, 1) := by decide +kernel
theorem d_L_law_1268 : decode md_L_law.2.1 1268 = .ok (.iadd, 1) := by decide +kernel
theorem d_L_law_1269 : decode md_L_law.2.1 1269 = .ok (.iaload, 1) := by decide +kernel
theorem d_L_law_1270 : decode md_L_law.2.1 1270 = .ok (.i2l, 1) := by decide +kernel
theorem d_L_law_1271 : decode md_L_law.2.1 1271 = .ok (.ldc2_w 82, 3) := by decide +kernel
theorem d_L_law_1274 : decode md_L_law.2.1 1274 = .ok (.land, 1) := by decide +kernel
theorem d_L_law_1275 : decode md_L_law.2.1 1275 = .ok (.lor, 1) := by decide +kernel
theorem d_L_law_1276 : decode md_L_law.2.1 1276 = .ok (.aload_n 3, 1) := by decide +kernel
theorem d_L_law_1277 : decode md_L_law.2.1 1277 = .ok (.invokestatic 133, 3) := by decide +kernel
theorem d_L_law_1280 : decode md_L_law.2.1 1280 = .ok (.istore 5, 2) := by decide +kernel
theorem d_L_law_1282 : decode md_L_law.2.1 1282 = .ok (.aload_n 2, 1) := by decide +kernel
theorem d_L_law_1283 : decode md_L_law.2.1 1283 = .ok (.aload_n 0, 1) := by decide +kernel
theorem d_L_law_1284 : decode md_L_law.2.1 1284 = .ok (.iload 4, 2) := by decide +kernel
theorem d_L_law_1286 : decode md_L_law.2.1 1286 = .ok (.iconst 1, 1) := by decide +kernel
theorem d_L_law_1287 : decode md_L_law.2.1 1287 = .ok (.iadd, 1) := by decide +kernel
theorem d_L_law_1288 : decode md_L_law.2.1 1288 = .ok (.iaload, 1) := by decide +kernel
theorem d_L_law_1289 : decode md_L_law.2.1 1289 = .ok (.i2l, 1) := by decide +kernel
theorem d_L_law_1290 : decode md_L_law.2.1 1290 = .ok (.bipush 32, 2) := by decide +kernel
theorem d_L_law_1292 : decode md_L_law.2.1 1292 = .ok (.lshl, 1) := by decide +kernel
theorem d_L_law_1293 : decode md_L_law.2.1 1293 = .ok (.aload_n 0, 1) := by decide +kernel
theorem d_L_law_1294 : decode md_L_law.2.1 1294 = .ok (.iload 4, 2) := by decide +kernel
theorem d_L_law_1296 : decode md_L_law.2.1 1296 = .ok (.iconst 2, 1) := by decide +kernel
theorem d_L_law_1297 : decode md_L_law.2.1 1297 = .ok (.iadd, 1) := by decide +kernel
theorem d_L_law_1298 : decode md_L_law.2.1 1298 = .ok (.iaload, 1) := by decide +kernel
theorem d_L_law_1299 : decode md_L_law.2.1 1299 = .ok (.i2l, 1) := by decide +kernel
theorem d_L_law_1300 : decode md_L_law.2.1 1300 = .ok (.ldc2_w 82, 3) := by decide +kernel
theorem d_L_law_1303 : decode md_L_law.2.1 1303 = .ok (.land, 1) := by decide +kernel
theorem d_L_law_1304 : decode md_L_law.2.1 1304 = .ok (.lor, 1) := by decide +kernel
theorem d_L_law_1305 : decode md_L_law.2.1 1305 = .ok (.invokevirtual 136, 3) := by decide +kernel
theorem d_L_law_1308 : decode md_L_law.2.1 1308 = .ok (.istore 6, 2) := by decide +kernel
theorem d_L_law_1310 : decode md_L_law.2.1 1310 = .ok (.aload_n 2, 1) := by decide +kernel
theorem d_L_law_1311 : decode md_L_law.2.1 1311 = .ok (.invokevirtual 88, 3) := by decide +kernel
theorem d_L_law_1314 : decode md_L_law.2.1 1314 = .ok (.iload 5, 2) := by decide +kernel
theorem d_L_law_1316 : decode md_L_law.2.1 1316 = .ok (.if_icmp .eq 5, 3) := by decide +kernel
theorem d_L_law_1319 : decode md_L_law.2.1 1319 = .ok (.iconst 0, 1) := by decide +kernel
theorem d_L_law_1320 : decode md_L_law.2.1 1320 = .ok (.ireturn, 1) := by decide +kernel
theorem d_L_law_1321 : decode md_L_law.2.1 1321 = .ok (.iload 5, 2) := by decide +kernel
theorem d_L_law_1323 : decode md_L_law.2.1 1323 = .ok (.ifCond .ne 22, 3) := by decide +kernel
theorem d_L_law_1326 : decode md_L_law.2.1 1326 = .ok (.aload_n 3, 1) := by decide +kernel
theorem d_L_law_1327 : decode md_L_law.2.1 1327 = .ok (.iconst 0, 1) := by decide +kernel
theorem d_L_law_1328 : decode md_L_law.2.1 1328 = .ok (.laload, 1) := by decide +kernel
theorem d_L_law_1329 : decode md_L_law.2.1 1329 = .ok (.iload 6, 2) := by decide +kernel
theorem d_L_law_1331 : decode md_L_law.2.1 1331 = .ok (.ifCond .eq 7, 3) := by decide +kernel
theorem d_L_law_1334 : decode md_L_law.2.1 1334 = .ok (.lconst 1, 1) := by decide +kernel
theorem d_L_law_1335 : decode md_L_law.2.1 1335 = .ok (.goto 4, 3) := by decide +kernel
theorem d_L_law_1338 : decode md_L_law.2.1 1338 = .ok (.lconst 0, 1) := by decide +kernel
theorem d_L_law_1339 : decode md_L_law.2.1 1339 = .ok (.lcmp, 1) := by decide +kernel
theorem d_L_law_1340 : decode md_L_law.2.1 1340 = .ok (.ifCond .eq 5, 3) := by decide +kernel
theorem d_L_law_1343 : decode md_L_law.2.1 1343 = .ok (.iconst 0, 1) := by decide +kernel
theorem d_L_law_1344 : decode md_L_law.2.1 1344 = .ok (.ireturn, 1) := by decide +kernel
theorem d_L_law_1345 : decode md_L_law.2.1 1345 = .ok (.goto 66, 3) := by decide +kernel
theorem d_L_law_1348 : decode md_L_law.2.1 1348 = .ok (.aload_n 1, 1) := by decide +kernel
theorem d_L_law_1349 : decode md_L_law.2.1 1349 = .ok (.aload_n 0, 1) := by decide +kernel
theorem d_L_law_1350 : decode md_L_law.2.1 1350 = .ok (.iload 4, 2) := by decide +kernel
theorem d_L_law_1352 : decode md_L_law.2.1 1352 = .ok (.iconst 1, 1) := by decide +kernel
theorem d_L_law_1353 : decode md_L_law.2.1 1353 = .ok (.iadd, 1) := by decide +kernel
theorem d_L_law_1354 : decode md_L_law.2.1 1354 = .ok (.iaload, 1) := by decide +kernel
theorem d_L_law_1355 : decode md_L_law.2.1 1355 = .ok (.aload_n 3, 1) := by decide +kernel
theorem d_L_law_1356 : decode md_L_law.2.1 1356 = .ok (.invokestatic 137, 3) := by decide +kernel
theorem d_L_law_1359 : decode md_L_law.2.1 1359 = .ok (.istore 5, 2) := by decide +kernel
theorem d_L_law_1361 : decode md_L_law.2.1 1361 = .ok (.aload_n 2, 1) := by decide +kernel
theorem d_L_law_1362 : decode md_L_law.2.1 1362 = .ok (.aload_n 0, 1) := by decide +kernel
theorem d_L_law_1363 : decode md_L_law.2.1 1363 = .ok (.iload 4, 2) := by decide +kernel
theorem d_L_law_1365 : decode md_L_law.2.1 1365 = .ok (.iconst 1, 1) := by decide +kernel
theorem d_L_law_1366 : decode md_L_law.2.1 1366 = .ok (.iadd, 1) := by decide +kernel
theorem d_L_law_1367 : decode md_L_law.2.1 1367 = .ok (.iaload, 1) := by decide +kernel
theorem d_L_law_1368 : decode md_L_law.2.1 1368 = .ok (.invokevirtual 139, 3) := by decide +kernel
theorem d_L_law_1371 : decode md_L_law.2.1 1371 = .ok (.istore 6, 2) := by decide +kernel
theorem d_L_law_1373 : decode md_L_law.2.1 1373 = .ok (.aload_n 2, 1) := by decide +kernel
theorem d_L_law_1374 : decode md_L_law.2.1 1374 = .ok (.invokevirtual 88, 3) := by decide +kernel
theorem d_L_law_1377 : decode md_L_law.2.1 1377 = .ok (.iload 5, 2) := by decide +kernel
theorem d_L_law_1379 : decode md_L_law.2.1 1379 = .ok (.if_icmp .eq 5, 3) := by decide +kernel
theorem d_L_law_1382 : decode md_L_law.2.1 1382 = .ok (.iconst 0, 1) := by decide +kernel
theorem d_L_law_1383 : decode md_L_law.2.1 1383 = .ok (.ireturn, 1) := by decide +kernel
theorem d_L_law_1384 : decode md_L_law.2.1 1384 = .ok (.iload 5, 2) := by decide +kernel
theorem d_L_law_1386 : decode md_L_law.2.1 1386 = .ok (.ifCond .ne 22, 3) := by decide +kernel
theorem d_L_law_1389 : decode md_L_law.2.1 1389 = .ok (.aload_n 3, 1) := by decide +kernel
theorem d_L_law_1390 : decode md_L_law.2.1 1390 = .ok (.iconst 0, 1) := by decide +kernel
theorem d_L_law_1391 : decode md_L_law.2.1 1391 = .ok (.laload, 1) := by decide +kernel
theorem d_L_law_1392 : decode md_L_law.2.1 1392 = .ok (.iload 6, 2) := by decide +kernel
theorem d_L_law_1394 : decode md_L_law.2.1 1394 = .ok (.ifCond .eq 7, 3) := by decide +kernel
theorem d_L_law_1397 : decode md_L_law.2.1 1397 = .ok (.lconst 1, 1) := by decide +kernel
theorem d_L_law_1398 : decode md_L_law.2.1 1398 = .ok (.goto 4, 3) := by decide +kernel
theorem d_L_law_1401 : decode md_L_law.2.1 1401 = .ok (.lconst 0, 1) := by decide +kernel
theorem d_L_law_1402 : decode md_L_law.2.1 1402 = .ok (.lcmp, 1) := by decide +kernel
theorem d_L_law_1403 : decode md_L_law.2.1 1403 = .ok (.ifCond .eq 5, 3) := by decide +kernel
theorem d_L_law_1406 : decode md_L_law.2.1 1406 = .ok (.iconst 0, 1) := by decide +kernel
theorem d_L_law_1407 : decode md_L_law.2.1 1407 = .ok (.ireturn, 1) := by decide +kernel
theorem d_L_law_1408 : decode md_L_law.2.1 1408 = .ok (.goto 3, 3) := by decide +kernel
theorem d_L_law_1411 : decode md_L_law.2.1 1411 = .ok (.iinc 4 7, 3) := by decide +kernel
theorem d_L_law_1414 : decode md_L_law.2.1 1414 = .ok (.goto (-1351), 3) := by decide +kernel
theorem d_L_law_1417 : decode md_L_law.2.1 1417 = .ok (.iconst 1, 1) := by decide +kernel
theorem d_L_law_1418 : decode md_L_law.2.1 1418 = .ok (.ireturn, 1) := by decide +kernel
end
section
theorem d_M_init_0 : decode md_M_init.2.1 0 = .ok (.aload_n 0, 1) := by decide +kernel
theorem d_M_init_1 : decode md_M_init.2.1 1 = .ok (.invokespecial 1, 3) := by decide +kernel
theorem d_M_init_4 : decode md_M_init.2.1 4 = .ok (.aload_n 0, 1) := by decide +kernel
theorem d_M_init_5 : decode md_M_init.2.1 5 = .ok (.bipush 6, 2) := by decide +kernel
theorem d_M_init_7 : decode md_M_init.2.1 7 = .ok (.newarray .int, 2) := by decide +kernel
theorem d_M_init_9 : decode md_M_init.2.1 9 = .ok (.putfield 7, 3) := by decide +kernel
theorem d_M_init_12 : decode md_M_init.2.1 12 = .ok (.aload_n 0, 1) := by decide +kernel
theorem d_M_init_13 : decode md_M_init.2.1 13 = .ok (.bipush 6, 2) := by decide +kernel
theorem d_M_init_15 : decode md_M_init.2.1 15 = .ok (.newarray .long, 2) := by decide +kernel
theorem d_M_init_17 : decode md_M_init.2.1 17 = .ok (.putfield 13, 3) := by decide +kernel
theorem d_M_init_20 : decode md_M_init.2.1 20 = .ok (.aload_n 0, 1) := by decide +kernel
theorem d_M_init_21 : decode md_M_init.2.1 21 = .ok (.bipush 6, 2) := by decide +kernel
theorem d_M_init_23 : decode md_M_init.2.1 23 = .ok (.newarray .long, 2) := by decide +kernel
theorem d_M_init_25 : decode md_M_init.2.1 25 = .ok (.putfield 17, 3) := by decide +kernel
theorem d_M_init_28 : decode md_M_init.2.1 28 = .ok (.aload_n 0, 1) := by decide +kernel
theorem d_M_init_29 : decode md_M_init.2.1 29 = .ok (.bipush 6, 2) := by decide +kernel
theorem d_M_init_31 : decode md_M_init.2.1 31 = .ok (.newarray .int, 2) := by decide +kernel
theorem d_M_init_33 : decode md_M_init.2.1 33 = .ok (.putfield 20, 3) := by decide +kernel
theorem d_M_init_36 : decode md_M_init.2.1 36 = .ok (.aload_n 0, 1) := by decide +kernel
theorem d_M_init_37 : decode md_M_init.2.1 37 = .ok (.bipush 24, 2) := by decide +kernel
theorem d_M_init_39 : decode md_M_init.2.1 39 = .ok (.newarray .long, 2) := by decide +kernel
theorem d_M_init_41 : decode md_M_init.2.1 41 = .ok (.putfield 23, 3) := by decide +kernel
theorem d_M_init_44 : decode md_M_init.2.1 44 = .ok (.aload_n 0, 1) := by decide +kernel
theorem d_M_init_45 : decode md_M_init.2.1 45 = .ok (.bipush 30, 2) := by decide +kernel
theorem d_M_init_47 : decode md_M_init.2.1 47 = .ok (.newarray .long, 2) := by decide +kernel
theorem d_M_init_49 : decode md_M_init.2.1 49 = .ok (.putfield 26, 3) := by decide +kernel
theorem d_M_init_52 : decode md_M_init.2.1 52 = .ok (.aload_n 0, 1) := by decide +kernel
theorem d_M_init_53 : decode md_M_init.2.1 53 = .ok (.bipush 30, 2) := by decide +kernel
theorem d_M_init_55 : decode md_M_init.2.1 55 = .ok (.newarray .int, 2) := by decide +kernel
theorem d_M_init_57 : decode md_M_init.2.1 57 = .ok (.putfield 29, 3) := by decide +kernel
theorem d_M_init_60 : decode md_M_init.2.1 60 = .ok (.aload_n 0, 1) := by decide +kernel
theorem d_M_init_61 : decode md_M_init.2.1 61 = .ok (.bipush 30, 2) := by decide +kernel
theorem d_M_init_63 : decode md_M_init.2.1 63 = .ok (.newarray .int, 2) := by decide +kernel
theorem d_M_init_65 : decode md_M_init.2.1 65 = .ok (.putfield 32, 3) := by decide +kernel
theorem d_M_init_68 : decode md_M_init.2.1 68 = .ok (.aload_n 0, 1) := by decide +kernel
theorem d_M_init_69 : decode md_M_init.2.1 69 = .ok (.sipush 1860, 3) := by decide +kernel
theorem d_M_init_72 : decode md_M_init.2.1 72 = .ok (.newarray .long, 2) := by decide +kernel
theorem d_M_init_74 : decode md_M_init.2.1 74 = .ok (.putfield 35, 3) := by decide +kernel
theorem d_M_init_77 : decode md_M_init.2.1 77 = .ok (.aload_n 0, 1) := by decide +kernel
theorem d_M_init_78 : decode md_M_init.2.1 78 = .ok (.sipush 1860, 3) := by decide +kernel
theorem d_M_init_81 : decode md_M_init.2.1 81 = .ok (.newarray .long, 2) := by decide +kernel
theorem d_M_init_83 : decode md_M_init.2.1 83 = .ok (.putfield 38, 3) := by decide +kernel
theorem d_M_init_86 : decode md_M_init.2.1 86 = .ok (.aload_n 0, 1) := by decide +kernel
theorem d_M_init_87 : decode md_M_init.2.1 87 = .ok (.sipush 4200, 3) := by decide +kernel
theorem d_M_init_90 : decode md_M_init.2.1 90 = .ok (.newarray .long, 2) := by decide +kernel
theorem d_M_init_92 : decode md_M_init.2.1 92 = .ok (.putfield 41, 3) := by decide +kernel
theorem d_M_init_95 : decode md_M_init.2.1 95 = .ok (.aload_n 0, 1) := by decide +kernel
theorem d_M_init_96 : decode md_M_init.2.1 96 = .ok (.sipush 400, 3) := by decide +kernel
theorem d_M_init_99 : decode md_M_init.2.1 99 = .ok (.newarray .long, 2) := by decide +kernel
theorem d_M_init_101 : decode md_M_init.2.1 101 = .ok (.putfield 44, 3) := by decide +kernel
theorem d_M_init_104 : decode md_M_init.2.1 104 = .ok (.aload_n 0, 1) := by decide +kernel
theorem d_M_init_105 : decode md_M_init.2.1 105 = .ok (.sipush 2400, 3) := by decide +kernel
theorem d_M_init_108 : decode md_M_init.2.1 108 = .ok (.newarray .long, 2) := by decide +kernel
theorem d_M_init_110 : decode md_M_init.2.1 110 = .ok (.putfield 47, 3) := by decide +kernel
theorem d_M_init_113 : decode md_M_init.2.1 113 = .ok (.aload_n 0, 1) := by decide +kernel
theorem d_M_init_114 : decode md_M_init.2.1 114 = .ok (.aload_n 0, 1) := by decide +kernel
theorem d_M_init_115 : decode md_M_init.2.1 115 = .ok (.iload_n 1, 1) := by decide +kernel
theorem d_M_init_116 : decode md_M_init.2.1 116 = .ok (.invokevirtual 50, 3) := by decide +kernel
theorem d_M_init_119 : decode md_M_init.2.1 119 = .ok (.putfield 54, 3) := by decide +kernel
theorem d_M_init_122 : decode md_M_init.2.1 122 = .ok (.aload_n 0, 1) := by decide +kernel
theorem d_M_init_123 : decode md_M_init.2.1 123 = .ok (.aload_n 0, 1) := by decide +kernel
theorem d_M_init_124 : decode md_M_init.2.1 124 = .ok (.iload_n 2, 1) := by decide +kernel
theorem d_M_init_125 : decode md_M_init.2.1 125 = .ok (.invokevirtual 50, 3) := by decide +kernel
theorem d_M_init_128 : decode md_M_init.2.1 128 = .ok (.putfield 58, 3) := by decide +kernel
theorem d_M_init_131 : decode md_M_init.2.1 131 = .ok (.aload_n 0, 1) := by decide +kernel
theorem d_M_init_132 : decode md_M_init.2.1 132 = .ok (.aload_n 0, 1) := by decide +kernel
theorem d_M_init_133 : decode md_M_init.2.1 133 = .ok (.iload_n 3, 1) := by decide +kernel
theorem d_M_init_134 : decode md_M_init.2.1 134 = .ok (.invokevirtual 50, 3) := by decide +kernel
theorem d_M_init_137 : decode md_M_init.2.1 137 = .ok (.putfield 61, 3) := by decide +kernel
theorem d_M_init_140 : decode md_M_init.2.1 140 = .ok (.aload_n 0, 1) := by decide +kernel
theorem d_M_init_141 : decode md_M_init.2.1 141 = .ok (.aload_n 0, 1) := by decide +kernel
theorem d_M_init_142 : decode md_M_init.2.1 142 = .ok (.iload 4, 2) := by decide +kernel
theorem d_M_init_144 : decode md_M_init.2.1 144 = .ok (.invokevirtual 50, 3) := by decide +kernel
theorem d_M_init_147 : decode md_M_init.2.1 147 = .ok (.putfield 64, 3) := by decide +kernel
theorem d_M_init_150 : decode md_M_init.2.1 150 = .ok (.return_, 1) := by decide +kernel
theorem d_M_held_0 : decode md_M_held.2.1 0 = .ok (.iload_n 1, 1) := by decide +kernel
theorem d_M_held_1 : decode md_M_held.2.1 1 = .ok (.ifCond .ge 7, 3) := by decide +kernel
theorem d_M_held_4 : decode md_M_held.2.1 4 = .ok (.iconst 0, 1) := by decide +kernel
theorem d_M_held_5 : decode md_M_held.2.1 5 = .ok (.goto 15, 3) := by decide +kernel
theorem d_M_held_8 : decode md_M_held.2.1 8 = .ok (.iload_n 1, 1) := by decide +kernel
theorem d_M_held_9 : decode md_M_held.2.1 9 = .ok (.ldc 70, 2) := by decide +kernel
theorem d_M_held_11 : decode md_M_held.2.1 11 = .ok (.if_icmp .le 8, 3) := by decide +kernel
theorem d_M_held_14 : decode md_M_held.2.1 14 = .ok (.ldc 70, 2) := by decide +kernel
theorem d_M_held_16 : decode md_M_held.2.1 16 = .ok (.goto 4, 3) := by decide +kernel
theorem d_M_held_19 : decode md_M_held.2.1 19 = .ok (.iload_n 1, 1) := by decide +kernel
theorem d_M_held_20 : decode md_M_held.2.1 20 = .ok (.ireturn, 1) := by decide +kernel
theorem d_M_thrown_0 : decode md_M_thrown.2.1 0 = .ok (.aload_n 0, 1) := by decide +kernel
theorem d_M_thrown_1 : decode md_M_thrown.2.1 1 = .ok (.getfield 67, 3) := by decide +kernel
theorem d_M_thrown_4 : decode md_M_thrown.2.1 4 = .ok (.ireturn, 1) := by decide +kernel
theorem d_M_fold_0 : decode md_M_fold.2.1 0 = .ok (.aload_n 0, 1) := by decide +kernel
theorem d_M_fold_1 : decode md_M_fold.2.1 1 = .ok (.iload_n 1, 1) := by decide +kernel
theorem d_M_fold_2 : decode md_M_fold.2.1 2 = .ok (.ifCond .lt 9, 3) := by decide +kernel
theorem d_M_fold_5 : decode md_M_fold.2.1 5 = .ok (.iload_n 1, 1) := by decide +kernel
theorem d_M_fold_6 : decode md_M_fold.2.1 6 = .ok (.bipush 8, 2) := by decide +kernel
theorem d_M_fold_8 : decode md_M_fold.2.1 8 = .ok (.if_icmp .le 7, 3) := by decide +kernel
theorem d_M_fold_11 : decode md_M_fold.2.1 11 = .ok (.iconst 1, 1) := by decide +kernel
theorem d_M_fold_12 : decode md_M_fold.2.1 12 = .ok (.goto 24, 3) := by decide +kernel
theorem d_M_fold_15 : decode md_M_fold.2.1 15 = .ok (.aload_n 0, 1) := by decide +kernel
theorem d_M_fold_16 : decode md_M_fold.2.1 16 = .ok (.getfield 71, 3) := by decide +kernel
theorem d_M_fold_19 : decode md_M_fold.2.1 19 = .ok (.bipush 6, 2) := by decide +kernel
theorem d_M_fold_21 : decode md_M_fold.2.1 21 = .ok (.if_icmp .eq 10, 3) := by decide +kernel
theorem d_M_fold_24 : decode md_M_fold.2.1 24 = .ok (.aload_n 0, 1) := by decide +kernel
theorem d_M_fold_25 : decode md_M_fold.2.1 25 = .ok (.getfield 80, 3) := by decide +kernel
theorem d_M_fold_28 : decode md_M_fold.2.1 28 = .ok (.ifCond .le 7, 3) := by decide +kernel
theorem d_M_fold_31 : decode md_M_fold.2.1 31 = .ok (.iconst 2, 1) := by decide +kernel
theorem d_M_fold_32 : decode md_M_fold.2.1 32 = .ok (.goto 4, 3) := by decide +kernel
theorem d_M_fold_35 : decode md_M_fold.2.1 35 = .ok (.iconst 0, 1) := by decide +kernel
theorem d_M_fold_36 : decode md_M_fold.2.1 36 = .ok (.putfield 67, 3) := by decide +kernel
theorem d_M_fold_39 : decode md_M_fold.2.1 39 = .ok (.aload_n 0, 1) := by decide +kernel
theorem d_M_fold_40 : decode md_M_fold.2.1 40 = .ok (.getfield 67, 3) := by decide +kernel
theorem d_M_fold_43 : decode md_M_fold.2.1 43 = .ok (.ifCond .le 5, 3) := by decide +kernel
theorem d_M_fold_46 : decode md_M_fold.2.1 46 = .ok (.iconst 0, 1) := by decide +kernel
theorem d_M_fold_47 : decode md_M_fold.2.1 47 = .ok (.ireturn, 1) := by decide +kernel
theorem d_M_fold_48 : decode md_M_fold.2.1 48 = .ok (.aload_n 0, 1) := by decide +kernel
theorem d_M_fold_49 : decode md_M_fold.2.1 49 = .ok (.getfield 7, 3) := by decide +kernel
theorem d_M_fold_52 : decode md_M_fold.2.1 52 = .ok (.aload_n 0, 1) := by decide +kernel
theorem d_M_fold_53 : decode md_M_fold.2.1 53 = .ok (.getfield 71, 3) := by decide +kernel
theorem d_M_fold_56 : decode md_M_fold.2.1 56 = .ok (.iload_n 1, 1) := by decide +kernel
theorem d_M_fold_57 : decode md_M_fold.2.1 57 = .ok (.iastore, 1) := by decide +kernel
theorem d_M_fold_58 : decode md_M_fold.2.1 58 = .ok (.aload_n 0, 1) := by decide +kernel
theorem d_M_fold_59 : decode md_M_fold.2.1 59 = .ok (.getfield 13, 3) := by decide +kernel
theorem d_M_fold_62 : decode md_M_fold.2.1 62 = .ok (.aload_n 0, 1) := by decide +kernel
theorem d_M_fold_63 : decode md_M_fold.2.1 63 = .ok (.getfield 71, 3) := by decide +kernel
theorem d_M_fold_66 : decode md_M_fold.2.1 66 = .ok (.lload_n 2, 1) := by decide +kernel
theorem d_M_fold_67 : decode md_M_fold.2.1 67 = .ok (.lastore, 1) := by decide +kernel
theorem d_M_fold_68 : decode md_M_fold.2.1 68 = .ok (.aload_n 0, 1) := by decide +kernel
theorem d_M_fold_69 : decode md_M_fold.2.1 69 = .ok (.getfield 17, 3) := by decide +kernel
theorem d_M_fold_72 : decode md_M_fold.2.1 72 = .ok (.aload_n 0, 1) := by decide +kernel
theorem d_M_fold_73 : decode md_M_fold.2.1 73 = .ok (.getfield 71, 3) := by decide +kernel
theorem d_M_fold_76 : decode md_M_fold.2.1 76 = .ok (.lload 4, 2) := by decide +kernel
theorem d_M_fold_78 : decode md_M_fold.2.1 78 = .ok (.lastore, 1) := by decide +kernel
theorem d_M_fold_79 : decode md_M_fold.2.1 79 = .ok (.aload_n 0, 1) := by decide +kernel
theorem d_M_fold_80 : decode md_M_fold.2.1 80 = .ok (.dup, 1) := by decide +kernel
theorem d_M_fold_81 : decode md_M_fold.2.1 81 = .ok (.getfield 71, 3) := by decide +kernel
theorem d_M_fold_84 : decode md_M_fold.2.1 84 = .ok (.iconst 1, 1) := by decide +kernel
theorem d_M_fold_85 : decode md_M_fold.2.1 85 = .ok (.iadd, 1) := by decide +kernel
theorem d_M_fold_86 : decode md_M_fold.2.1 86 = .ok (.putfield 71, 3) := by decide +kernel
theorem d_M_fold_89 : decode md_M_fold.2.1 89 = .ok (.aload_n 0, 1) := by decide +kernel
theorem d_M_fold_90 : decode md_M_fold.2.1 90 = .ok (.getfield 71, 3) := by decide +kernel
theorem d_M_fold_93 : decode md_M_fold.2.1 93 = .ok (.iconst 1, 1) := by decide +kernel
theorem d_M_fold_94 : decode md_M_fold.2.1 94 = .ok (.isub, 1) := by decide +kernel
theorem d_M_fold_95 : decode md_M_fold.2.1 95 = .ok (.ireturn, 1) := by decide +kernel
theorem d_M_failsAt_0 : decode md_M_failsAt.2.1 0 = .ok (.aload_n 0, 1) := by decide +kernel
theorem d_M_failsAt_1 : decode md_M_failsAt.2.1 1 = .ok (.aload_n 0, 1) := by decide +kernel
theorem d_M_failsAt_2 : decode md_M_failsAt.2.1 2 = .ok (.iload_n 1, 1) := by decide +kernel
theorem d_M_failsAt_3 : decode md_M_failsAt.2.1 3 = .ok (.invokevirtual 83, 3) := by decide +kernel
theorem d_M_failsAt_6 : decode md_M_failsAt.2.1 6 = .ok (.ifCond .ne 7, 3) := by decide +kernel
theorem d_M_failsAt_9 : decode md_M_failsAt.2.1 9 = .ok (.iconst 1, 1) := by decide +kernel
theorem d_M_failsAt_10 : decode md_M_failsAt.2.1 10 = .ok (.goto 27, 3) := by decide +kernel
theorem d_M_failsAt_13 : decode md_M_failsAt.2.1 13 = .ok (.aload_n 0, 1) := by decide +kernel
theorem d_M_failsAt_14 : decode md_M_failsAt.2.1 14 = .ok (.getfield 20, 3) := by decide +kernel
theorem d_M_failsAt_17 : decode md_M_failsAt.2.1 17 = .ok (.iload_n 1, 1) := by decide +kernel
theorem d_M_failsAt_18 : decode md_M_failsAt.2.1 18 = .ok (.iaload, 1) := by decide +kernel
theorem d_M_failsAt_19 : decode md_M_failsAt.2.1 19 = .ok (.iconst 4, 1) := by decide +kernel
theorem d_M_failsAt_20 : decode md_M_failsAt.2.1 20 = .ok (.if_icmp .eq 12, 3) := by decide +kernel
theorem d_M_failsAt_23 : decode md_M_failsAt.2.1 23 = .ok (.aload_n 0, 1) := by decide +kernel
theorem d_M_failsAt_24 : decode md_M_failsAt.2.1 24 = .ok (.iload_n 1, 1) := by decide +kernel
theorem d_M_failsAt_25 : decode md_M_failsAt.2.1 25 = .ok (.lload_n 2, 1) := by decide +kernel
theorem d_M_failsAt_26 : decode md_M_failsAt.2.1 26 = .ok (.invokevirtual 87, 3) := by decide +kernel
theorem d_M_failsAt_29 : decode md_M_failsAt.2.1 29 = .ok (.ifCond .eq 7, 3) := by decide +kernel
theorem d_M_failsAt_32 : decode md_M_failsAt.2.1 32 = .ok (.iconst 2, 1) := by decide +kernel
theorem d_M_failsAt_33 : decode md_M_failsAt.2.1 33 = .ok (.goto 4, 3) := by decide +kernel
theorem d_M_failsAt_36 : decode md_M_failsAt.2.1 36 = .ok (.iconst 0, 1) := by decide +kernel
theorem d_M_failsAt_37 : decode md_M_failsAt.2.1 37 = .ok (.putfield 67, 3) := by decide +kernel
theorem d_M_failsAt_40 : decode md_M_failsAt.2.1 40 = .ok (.aload_n 0, 1) := by decide +kernel
theorem d_M_failsAt_41 : decode md_M_failsAt.2.1 41 = .ok (.getfield 67, 3) := by decide +kernel
theorem d_M_failsAt_44 : decode md_M_failsAt.2.1 44 = .ok (.ifCond .le 5, 3) := by decide +kernel
theorem d_M_failsAt_47 : decode md_M_failsAt.2.1 47 = .ok (.iconst 0, 1) := by decide +kernel
theorem d_M_failsAt_48 : decode md_M_failsAt.2.1 48 = .ok (.ireturn, 1) := by decide +kernel
theorem d_M_failsAt_49 : decode md_M_failsAt.2.1 49 = .ok (.aload_n 0, 1) := by decide +kernel
theorem d_M_failsAt_50 : decode md_M_failsAt.2.1 50 = .ok (.getfield 23, 3) := by decide +kernel
theorem d_M_failsAt_53 : decode md_M_failsAt.2.1 53 = .ok (.iconst 4, 1) := by decide +kernel
theorem d_M_failsAt_54 : decode md_M_failsAt.2.1 54 = .ok (.iload_n 1, 1) := by decide +kernel
theorem d_M_failsAt_55 : decode md_M_failsAt.2.1 55 = .ok (.imul, 1) := by decide +kernel
theorem d_M_failsAt_56 : decode md_M_failsAt.2.1 56 = .ok (.aload_n 0, 1) := by decide +kernel
theorem d_M_failsAt_57 : decode md_M_failsAt.2.1 57 = .ok (.getfield 20, 3) := by decide +kernel
theorem d_M_failsAt_60 : decode md_M_failsAt.2.1 60 = .ok (.iload_n 1, 1) := by decide +kernel
theorem d_M_failsAt_61 : decode md_M_failsAt.2.1 61 = .ok (.iaload, 1) := by decide +kernel
theorem d_M_failsAt_62 : decode md_M_failsAt.2.1 62 = .ok (.iadd, 1) := by decide +kernel
theorem d_M_failsAt_63 : decode md_M_failsAt.2.1 63 = .ok (.lload_n 2, 1) := by decide +kernel
theorem d_M_failsAt_64 : decode md_M_failsAt.2.1 64 = .ok (.lastore, 1) := by decide +kernel
theorem d_M_failsAt_65 : decode md_M_failsAt.2.1 65 = .ok (.aload_n 0, 1) := by decide +kernel
theorem d_M_failsAt_66 : decode md_M_failsAt.2.1 66 = .ok (.getfield 20, 3) := by decide +kernel
theorem d_M_failsAt_69 : decode md_M_failsAt.2.1 69 = .ok (.iload_n 1, 1) := by decide +kernel
theorem d_M_failsAt_70 : decode md_M_failsAt.2.1 70 = .ok (.dup2, 1) := by decide +kernel
theorem d_M_failsAt_71 : decode md_M_failsAt.2.1 71 = .ok (.iaload, 1) := by decide +kernel
theorem d_M_failsAt_72 : decode md_M_failsAt.2.1 72 = .ok (.iconst 1, 1) := by decide +kernel
theorem d_M_failsAt_73 : decode md_M_failsAt.2.1 73 = .ok (.iadd, 1) := by decide +kernel
theorem d_M_failsAt_74 : decode md_M_failsAt.2.1 74 = .ok (.iastore, 1) := by decide +kernel
theorem d_M_failsAt_75 : decode md_M_failsAt.2.1 75 = .ok (.aload_n 0, 1) := by decide +kernel
theorem d_M_failsAt_76 : decode md_M_failsAt.2.1 76 = .ok (.getfield 20, 3) := by decide +kernel
theorem d_M_failsAt_79 : decode md_M_failsAt.2.1 79 = .ok (.iload_n 1, 1) := by decide +kernel
theorem d_M_failsAt_80 : decode md_M_failsAt.2.1 80 = .ok (.iaload, 1) := by decide +kernel
theorem d_M_failsAt_81 : decode md_M_failsAt.2.1 81 = .ok (.ireturn, 1) := by decide +kernel
theorem d_M_isFold_0 : decode md_M_isFold.2.1 0 = .ok (.iload_n 1, 1) := by decide +kernel
theorem d_M_isFold_1 : decode md_M_isFold.2.1 1 = .ok (.ifCond .lt 15, 3) := by decide +kernel
theorem d_M_isFold_4 : decode md_M_isFold.2.1 4 = .ok (.iload_n 1, 1) := by decide +kernel
theorem d_M_isFold_5 : decode md_M_isFold.2.1 5 = .ok (.aload_n 0, 1) := by decide +kernel
theorem d_M_isFold_6 : decode md_M_isFold.2.1 6 = .ok (.getfield 71, 3) := by decide +kernel
theorem d_M_isFold_9 : decode md_M_isFold.2.1 9 = .ok (.if_icmp .ge 7, 3) := by decide +kernel
theorem d_M_isFold_12 : decode md_M_isFold.2.1 12 = .ok (.iconst 1, 1) := by decide +kernel
theorem d_M_isFold_13 : decode md_M_isFold.2.1 13 = .ok (.goto 4, 3) := by decide +kernel
theorem d_M_isFold_16 : decode md_M_isFold.2.1 16 = .ok (.iconst 0, 1) := by decide +kernel
theorem d_M_isFold_17 : decode md_M_isFold.2.1 17 = .ok (.ireturn, 1) := by decide +kernel
theorem d_M_failsAtIt_0 : decode md_M_failsAtIt.2.1 0 = .ok (.iconst 0, 1) := by decide +kernel
theorem d_M_failsAtIt_1 : decode md_M_failsAtIt.2.1 1 = .ok (.istore 4, 2) := by decide +kernel
theorem d_M_failsAtIt_3 : decode md_M_failsAtIt.2.1 3 = .ok (.iconst 0, 1) := by decide +kernel
theorem d_M_failsAtIt_4 : decode md_M_failsAtIt.2.1 4 = .ok (.istore 5, 2) := by decide +kernel
theorem d_M_failsAtIt_6 : decode md_M_failsAtIt.2.1 6 = .ok (.iload 5, 2) := by decide +kernel
theorem d_M_failsAtIt_8 : decode md_M_failsAtIt.2.1 8 = .ok (.aload_n 0, 1) := by decide +kernel
theorem d_M_failsAtIt_9 : decode md_M_failsAtIt.2.1 9 = .ok (.getfield 20, 3) := by decide +kernel
theorem d_M_failsAtIt_12 : decode md_M_failsAtIt.2.1 12 = .ok (.iload_n 1, 1) := by decide +kernel
theorem d_M_failsAtIt_13 : decode md_M_failsAtIt.2.1 13 = .ok (.iaload, 1) := by decide +kernel
theorem d_M_failsAtIt_14 : decode md_M_failsAtIt.2.1 14 = .ok (.if_icmp .ge 35, 3) := by decide +kernel
theorem d_M_failsAtIt_17 : decode md_M_failsAtIt.2.1 17 = .ok (.iload 4, 2) := by decide +kernel
theorem d_M_failsAtIt_19 : decode md_M_failsAtIt.2.1 19 = .ok (.aload_n 0, 1) := by decide +kernel
theorem d_M_failsAtIt_20 : decode md_M_failsAtIt.2.1 20 = .ok (.getfield 23, 3) := by decide +kernel
theorem d_M_failsAtIt_23 : decode md_M_failsAtIt.2.1 23 = .ok (.iconst 4, 1) := by decide +kernel
theorem d_M_failsAtIt_24 : decode md_M_failsAtIt.2.1 24 = .ok (.iload_n 1, 1) := by decide +kernel
theorem d_M_failsAtIt_25 : decode md_M_failsAtIt.2.1 25 = .ok (.imul, 1) := by decide +kernel
theorem d_M_failsAtIt_26 : decode md_M_failsAtIt.2.1 26 = .ok (.iload 5, 2) := by decide +kernel
theorem d_M_failsAtIt_28 : decode md_M_failsAtIt.2.1 28 = .ok (.iadd, 1) := by decide +kernel
theorem d_M_failsAtIt_29 : decode md_M_failsAtIt.2.1 29 = .ok (.laload, 1) := by decide +kernel
theorem d_M_failsAtIt_30 : decode md_M_failsAtIt.2.1 30 = .ok (.lload_n 2, 1) := by decide +kernel
theorem d_M_failsAtIt_31 : decode md_M_failsAtIt.2.1 31 = .ok (.lcmp, 1) := by decide +kernel
theorem d_M_failsAtIt_32 : decode md_M_failsAtIt.2.1 32 = .ok (.ifCond .ne 7, 3) := by decide +kernel
theorem d_M_failsAtIt_35 : decode md_M_failsAtIt.2.1 35 = .ok (.iconst 1, 1) := by decide +kernel
theorem d_M_failsAtIt_36 : decode md_M_failsAtIt.2.1 36 = .ok (.goto 4, 3) := by decide +kernel
theorem d_M_failsAtIt_39 : decode md_M_failsAtIt.2.1 39 = .ok (.iconst 0, 1) := by decide +kernel
theorem d_M_failsAtIt_40 : decode md_M_failsAtIt.2.1 40 = .ok (.ior, 1) := by decide +kernel
theorem d_M_failsAtIt_41 : decode md_M_failsAtIt.2.1 41 = .ok (.istore 4, 2) := by decide +kernel
theorem d_M_failsAtIt_43 : decode md_M_failsAtIt.2.1 43 = .ok (.iinc 5 1, 3) := by decide +kernel
theorem d_M_failsAtIt_46 : decode md_M_failsAtIt.2.1 46 = .ok (.goto (-40), 3) := by decide +kernel
theorem d_M_failsAtIt_49 : decode md_M_failsAtIt.2.1 49 = .ok (.iload 4, 2) := by decide +kernel
theorem d_M_failsAtIt_51 : decode md_M_failsAtIt.2.1 51 = .ok (.ireturn, 1) := by decide +kernel
theorem d_M_rule_0 : decode md_M_rule.2.1 0 = .ok (.aload_n 0, 1) := by decide +kernel
theorem d_M_rule_1 : decode md_M_rule.2.1 1 = .ok (.iload_n 1, 1) := by decide +kernel
theorem d_M_rule_2 : decode md_M_rule.2.1 2 = .ok (.ifCond .lt 17, 3) := by decide +kernel
theorem d_M_rule_5 : decode md_M_rule.2.1 5 = .ok (.iload_n 1, 1) := by decide +kernel
theorem d_M_rule_6 : decode md_M_rule.2.1 6 = .ok (.iconst 1, 1) := by decide +kernel
theorem d_M_rule_7 : decode md_M_rule.2.1 7 = .ok (.if_icmp .gt 12, 3) := by decide +kernel
theorem d_M_rule_10 : decode md_M_rule.2.1 10 = .ok (.iload_n 2, 1) := by decide +kernel
theorem d_M_rule_11 : decode md_M_rule.2.1 11 = .ok (.ifCond .lt 8, 3) := by decide +kernel
theorem d_M_rule_14 : decode md_M_rule.2.1 14 = .ok (.iload_n 2, 1) := by decide +kernel
theorem d_M_rule_15 : decode md_M_rule.2.1 15 = .ok (.iconst 2, 1) := by decide +kernel
theorem d_M_rule_16 : decode md_M_rule.2.1 16 = .ok (.if_icmp .le 7, 3) := by decide +kernel
theorem d_M_rule_19 : decode md_M_rule.2.1 19 = .ok (.iconst 1, 1) := by decide +kernel
theorem d_M_rule_20 : decode md_M_rule.2.1 20 = .ok (.goto 4, 3) := by decide +kernel
theorem d_M_rule_23 : decode md_M_rule.2.1 23 = .ok (.iconst 0, 1) := by decide +kernel
theorem d_M_rule_24 : decode md_M_rule.2.1 24 = .ok (.putfield 67, 3) := by decide +kernel
theorem d_M_rule_27 : decode md_M_rule.2.1 27 = .ok (.aload_n 0, 1) := by decide +kernel
theorem d_M_rule_28 : decode md_M_rule.2.1 28 = .ok (.getfield 67, 3) := by decide +kernel
theorem d_M_rule_31 : decode md_M_rule.2.1 31 = .ok (.ifCond .le 5, 3) := by decide +kernel
theorem d_M_rule_34 : decode md_M_rule.2.1 34 = .ok (.iconst 0, 1) := by decide +kernel
theorem d_M_rule_35 : decode md_M_rule.2.1 35 = .ok (.ireturn, 1) := by decide +kernel
theorem d_M_rule_36 : decode md_M_rule.2.1 36 = .ok (.iload_n 1, 1) := by decide +kernel
theorem d_M_rule_37 : decode md_M_rule.2.1 37 = .ok (.ifCond .ne 10, 3) := by decide +kernel
theorem d_M_rule_40 : decode md_M_rule.2.1 40 = .ok (.aload_n 0, 1) := by decide +kernel
theorem d_M_rule_41 : decode md_M_rule.2.1 41 = .ok (.getfield 91, 3) := by decide +kernel
theorem d_M_rule_44 : decode md_M_rule.2.1 44 = .ok (.goto 7, 3) := by decide +kernel
theorem d_M_rule_47 : decode md_M_rule.2.1 47 = .ok (.aload_n 0, 1) := by decide +kernel
theorem d_M_rule_48 : decode md_M_rule.2.1 48 = .ok (.getfield 94, 3) := by decide +kernel
theorem d_M_rule_51 : decode md_M_rule.2.1 51 = .ok (.istore_n 3, 1) := by decide +kernel
theorem d_M_rule_52 : decode md_M_rule.2.1 52 = .ok (.iload_n 1, 1) := by decide +kernel
theorem d_M_rule_53 : decode md_M_rule.2.1 53 = .ok (.ifCond .ne 11, 3) := by decide +kernel
theorem d_M_rule_56 : decode md_M_rule.2.1 56 = .ok (.aload_n 0, 1) := by decide +kernel
theorem d_M_rule_57 : decode md_M_rule.2.1 57 = .ok (.iload_n 2, 1) := by decide +kernel
theorem d_M_rule_58 : decode md_M_rule.2.1 58 = .ok (.putfield 91, 3) := by decide +kernel
theorem d_M_rule_61 : decode md_M_rule.2.1 61 = .ok (.goto 8, 3) := by decide +kernel
theorem d_M_rule_64 : decode md_M_rule.2.1 64 = .ok (.aload_n 0, 1) := by decide +kernel
theorem d_M_rule_65 : decode md_M_rule.2.1 65 = .ok (.iload_n 2, 1) := by decide +kernel
theorem d_M_rule_66 : decode md_M_rule.2.1 66 = .ok (.putfield 94, 3) := by decide +kernel
theorem d_M_rule_69 : decode md_M_rule.2.1 69 = .ok (.iload_n 3, 1) := by decide +kernel
theorem d_M_rule_70 : decode md_M_rule.2.1 70 = .ok (.ireturn, 1) := by decide +kernel
theorem d_M_row_0 : decode md_M_row.2.1 0 = .ok (.aload_n 0, 1) := by decide +kernel
theorem d_M_row_1 : decode md_M_row.2.1 1 = .ok (.lload_n 3, 1) := by decide +kernel
theorem d_M_row_2 : decode md_M_row.2.1 2 = .ok (.lconst 0, 1) := by decide +kernel
theorem d_M_row_3 : decode md_M_row.2.1 3 = .ok (.lcmp, 1) := by decide +kernel
theorem d_M_row_4 : decode md_M_row.2.1 4 = .ok (.ifCond .lt 11, 3) := by decide +kernel
theorem d_M_row_7 : decode md_M_row.2.1 7 = .ok (.lload_n 3, 1) := by decide +kernel
theorem d_M_row_8 : decode md_M_row.2.1 8 = .ok (.ldc2_w 104, 3) := by decide +kernel
theorem d_M_row_11 : decode md_M_row.2.1 11 = .ok (.lcmp, 1) := by decide +kernel
theorem d_M_row_12 : decode md_M_row.2.1 12 = .ok (.ifCond .le 7, 3) := by decide +kernel
theorem d_M_row_15 : decode md_M_row.2.1 15 = .ok (.iconst 1, 1) := by decide +kernel
theorem d_M_row_16 : decode md_M_row.2.1 16 = .ok (.goto 24, 3) := by decide +kernel
theorem d_M_row_19 : decode md_M_row.2.1 19 = .ok (.aload_n 0, 1) := by decide +kernel
theorem d_M_row_20 : decode md_M_row.2.1 20 = .ok (.getfield 71, 3) := by decide +kernel
theorem d_M_row_23 : decode md_M_row.2.1 23 = .ok (.ifCond .eq 12, 3) := by decide +kernel
theorem d_M_row_26 : decode md_M_row.2.1 26 = .ok (.aload_n 0, 1) := by decide +kernel
theorem d_M_row_27 : decode md_M_row.2.1 27 = .ok (.lload_n 1, 1) := by decide +kernel
theorem d_M_row_28 : decode md_M_row.2.1 28 = .ok (.invokevirtual 106, 3) := by decide +kernel
theorem d_M_row_31 : decode md_M_row.2.1 31 = .ok (.iconst (-1), 1) := by decide +kernel
theorem d_M_row_32 : decode md_M_row.2.1 32 = .ok (.if_icmp .eq 7, 3) := by decide +kernel
theorem d_M_row_35 : decode md_M_row.2.1 35 = .ok (.iconst 2, 1) := by decide +kernel
theorem d_M_row_36 : decode md_M_row.2.1 36 = .ok (.goto 4, 3) := by decide +kernel
theorem d_M_row_39 : decode md_M_row.2.1 39 = .ok (.iconst 0, 1) := by decide +kernel
theorem d_M_row_40 : decode md_M_row.2.1 40 = .ok (.putfield 67, 3) := by decide +kernel
theorem d_M_row_43 : decode md_M_row.2.1 43 = .ok (.aload_n 0, 1) := by decide +kernel
theorem d_M_row_44 : decode md_M_row.2.1 44 = .ok (.getfield 67, 3) := by decide +kernel
theorem d_M_row_47 : decode md_M_row.2.1 47 = .ok (.ifCond .le 5, 3) := by decide +kernel
theorem d_M_row_50 : decode md_M_row.2.1 50 = .ok (.iconst 0, 1) := by decide +kernel
theorem d_M_row_51 : decode md_M_row.2.1 51 = .ok (.ireturn, 1) := by decide +kernel
theorem d_M_row_52 : decode md_M_row.2.1 52 = .ok (.aload_n 0, 1) := by decide +kernel
theorem d_M_row_53 : decode md_M_row.2.1 53 = .ok (.getfield 110, 3) := by decide +kernel
theorem d_M_row_56 : decode md_M_row.2.1 56 = .ok (.ifCond .eq 16, 3) := by decide +kernel
theorem d_M_row_59 : decode md_M_row.2.1 59 = .ok (.lload_n 3, 1) := by decide +kernel
theorem d_M_row_60 : decode md_M_row.2.1 60 = .ok (.aload_n 0, 1) := by decide +kernel
theorem d_M_row_61 : decode md_M_row.2.1 61 = .ok (.getfield 114, 3) := by decide +kernel
theorem d_M_row_64 : decode md_M_row.2.1 64 = .ok (.lcmp, 1) := by decide +kernel
theorem d_M_row_65 : decode md_M_row.2.1 65 = .ok (.ifCond .ge 7, 3) := by decide +kernel
theorem d_M_row_68 : decode md_M_row.2.1 68 = .ok (.iconst 1, 1) := by decide +kernel
theorem d_M_row_69 : decode md_M_row.2.1 69 = .ok (.goto 4, 3) := by decide +kernel
theorem d_M_row_72 : decode md_M_row.2.1 72 = .ok (.iconst 0, 1) := by decide +kernel
theorem d_M_row_73 : decode md_M_row.2.1 73 = .ok (.istore 7, 2) := by decide +kernel
theorem d_M_row_75 : decode md_M_row.2.1 75 = .ok (.iload 7, 2) := by decide +kernel
theorem d_M_row_77 : decode md_M_row.2.1 77 = .ok (.ifCond .eq 45, 3) := by decide +kernel
theorem d_M_row_80 : decode md_M_row.2.1 80 = .ok (.aload_n 0, 1) := by decide +kernel
theorem d_M_row_81 : decode md_M_row.2.1 81 = .ok (.getfield 91, 3) := by decide +kernel
theorem d_M_row_84 : decode md_M_row.2.1 84 = .ok (.iconst 2, 1) := by decide +kernel
theorem d_M_row_85 : decode md_M_row.2.1 85 = .ok (.if_icmp .ge 37, 3) := by decide +kernel
theorem d_M_row_88 : decode md_M_row.2.1 88 = .ok (.aload_n 0, 1) := by decide +kernel
theorem d_M_row_89 : decode md_M_row.2.1 89 = .ok (.dup, 1) := by decide +kernel
theorem d_M_row_90 : decode md_M_row.2.1 90 = .ok (.getfield 118, 3) := by decide +kernel
theorem d_M_row_93 : decode md_M_row.2.1 93 = .ok (.iconst 1, 1) := by decide +kernel
theorem d_M_row_94 : decode md_M_row.2.1 94 = .ok (.iadd, 1) := by decide +kernel
theorem d_M_row_95 : decode md_M_row.2.1 95 = .ok (.putfield 118, 3) := by decide +kernel
theorem d_M_row_98 : decode md_M_row.2.1 98 = .ok (.aload_n 0, 1) := by decide +kernel
theorem d_M_row_99 : decode md_M_row.2.1 99 = .ok (.getfield 91, 3) := by decide +kernel
theorem d_M_row_102 : decode md_M_row.2.1 102 = .ok (.iconst 1, 1) := by decide +kernel
theorem d_M_row_103 : decode md_M_row.2.1 103 = .ok (.if_icmp .ne 12, 3) := by decide +kernel
theorem d_M_row_106 : decode md_M_row.2.1 106 = .ok (.aload_n 0, 1) := by decide +kernel
theorem d_M_row_107 : decode md_M_row.2.1 107 = .ok (.lload_n 1, 1) := by decide +kernel
theorem d_M_row_108 : decode md_M_row.2.1 108 = .ok (.lload_n 3, 1) := by decide +kernel
theorem d_M_row_109 : decode md_M_row.2.1 109 = .ok (.lload 5, 2) := by decide +kernel
theorem d_M_row_111 : decode md_M_row.2.1 111 = .ok (.iconst (-1), 1) := by decide +kernel
theorem d_M_row_112 : decode md_M_row.2.1 112 = .ok (.invokevirtual 121, 3) := by decide +kernel
theorem d_M_row_115 : decode md_M_row.2.1 115 = .ok (.iconst 1, 1) := by decide +kernel
theorem d_M_row_116 : decode md_M_row.2.1 116 = .ok (.aload_n 0, 1) := by decide +kernel
theorem d_M_row_117 : decode md_M_row.2.1 117 = .ok (.getfield 91, 3) := by decide +kernel
theorem d_M_row_120 : decode md_M_row.2.1 120 = .ok (.iadd, 1) := by decide +kernel
theorem d_M_row_121 : decode md_M_row.2.1 121 = .ok (.ireturn, 1) := by decide +kernel
theorem d_M_row_122 : decode md_M_row.2.1 122 = .ok (.aload_n 0, 1) := by decide +kernel
theorem d_M_row_123 : decode md_M_row.2.1 123 = .ok (.lload_n 1, 1) := by decide +kernel
theorem d_M_row_124 : decode md_M_row.2.1 124 = .ok (.invokevirtual 125, 3) := by decide +kernel
theorem d_M_row_127 : decode md_M_row.2.1 127 = .ok (.istore 8, 2) := by decide +kernel
theorem d_M_row_129 : decode md_M_row.2.1 129 = .ok (.aload_n 0, 1) := by decide +kernel
theorem d_M_row_130 : decode md_M_row.2.1 130 = .ok (.iload 8, 2) := by decide +kernel
theorem d_M_row_132 : decode md_M_row.2.1 132 = .ok (.lload_n 3, 1) := by decide +kernel
theorem d_M_row_133 : decode md_M_row.2.1 133 = .ok (.lload 5, 2) := by decide +kernel
theorem d_M_row_135 : decode md_M_row.2.1 135 = .ok (.invokevirtual 128, 3) := by decide +kernel
theorem d_M_row_138 : decode md_M_row.2.1 138 = .ok (.ifCond .eq 34, 3) := by decide +kernel
theorem d_M_row_141 : decode md_M_row.2.1 141 = .ok (.aload_n 0, 1) := by decide +kernel
theorem d_M_row_142 : decode md_M_row.2.1 142 = .ok (.dup, 1) := by decide +kernel
theorem d_M_row_143 : decode md_M_row.2.1 143 = .ok (.getfield 132, 3) := by decide +kernel
theorem d_M_row_146 : decode md_M_row.2.1 146 = .ok (.iconst 1, 1) := by decide +kernel
theorem d_M_row_147 : decode md_M_row.2.1 147 = .ok (.iadd, 1) := by decide +kernel
theorem d_M_row_148 : decode md_M_row.2.1 148 = .ok (.putfield 132, 3) := by decide +kernel
theorem d_M_row_151 : decode md_M_row.2.1 151 = .ok (.aload_n 0, 1) := by decide +kernel
theorem d_M_row_152 : decode md_M_row.2.1 152 = .ok (.dup, 1) := by decide +kernel
theorem d_M_row_153 : decode md_M_row.2.1 153 = .ok (.getfield 118, 3) := by decide +kernel
theorem d_M_row_156 : decode md_M_row.2.1 156 = .ok (.iload 7, 2) := by decide +kernel
theorem d_M_row_158 : decode md_M_row.2.1 158 = .ok (.ifCond .eq 7, 3) := by decide +kernel
theorem d_M_row_161 : decode md_M_row.2.1 161 = .ok (.iconst 1, 1) := by decide +kernel
theorem d_M_row_162 : decode md_M_row.2.1 162 = .ok (.goto 4, 3) := by decide +kernel
theorem d_M_row_165 : decode md_M_row.2.1 165 = .ok (.iconst 0, 1) := by decide +kernel
theorem d_M_row_166 : decode md_M_row.2.1 166 = .ok (.iadd, 1) := by decide +kernel
theorem d_M_row_167 : decode md_M_row.2.1 167 = .ok (.putfield 118, 3) := by decide +kernel
theorem d_M_row_170 : decode md_M_row.2.1 170 = .ok (.iconst 3, 1) := by decide +kernel
theorem d_M_row_171 : decode md_M_row.2.1 171 = .ok (.ireturn, 1) := by decide +kernel
theorem d_M_row_172 : decode md_M_row.2.1 172 = .ok (.aload_n 0, 1) := by decide +kernel
theorem d_M_row_173 : decode md_M_row.2.1 173 = .ok (.lload 5, 2) := by decide +kernel
theorem d_M_row_175 : decode md_M_row.2.1 175 = .ok (.invokevirtual 135, 3) := by decide +kernel
theorem d_M_row_178 : decode md_M_row.2.1 178 = .ok (.istore 9, 2) := by decide +kernel
theorem d_M_row_180 : decode md_M_row.2.1 180 = .ok (.iload 9, 2) := by decide +kernel
theorem d_M_row_182 : decode md_M_row.2.1 182 = .ok (.iconst (-1), 1) := by decide +kernel
theorem d_M_row_183 : decode md_M_row.2.1 183 = .ok (.if_icmp .eq 84, 3) := by decide +kernel
theorem d_M_row_186 : decode md_M_row.2.1 186 = .ok (.aload_n 0, 1) := by decide +kernel
theorem d_M_row_187 : decode md_M_row.2.1 187 = .ok (.dup, 1) := by decide +kernel
theorem d_M_row_188 : decode md_M_row.2.1 188 = .ok (.getfield 138, 3) := by decide +kernel
theorem d_M_row_191 : decode md_M_row.2.1 191 = .ok (.iconst 1, 1) := by decide +kernel
theorem d_M_row_192 : decode md_M_row.2.1 192 = .ok (.iadd, 1) := by decide +kernel
theorem d_M_row_193 : decode md_M_row.2.1 193 = .ok (.putfield 138, 3) := by decide +kernel
theorem d_M_row_196 : decode md_M_row.2.1 196 = .ok (.aload_n 0, 1) := by decide +kernel
theorem d_M_row_197 : decode md_M_row.2.1 197 = .ok (.dup, 1) := by decide +kernel
theorem d_M_row_198 : decode md_M_row.2.1 198 = .ok (.getfield 118, 3) := by decide +kernel
theorem d_M_row_201 : decode md_M_row.2.1 201 = .ok (.iload 7, 2) := by decide +kernel
theorem d_M_row_203 : decode md_M_row.2.1 203 = .ok (.ifCond .eq 7, 3) := by decide +kernel
theorem d_M_row_206 : decode md_M_row.2.1 206 = .ok (.iconst 1, 1) := by decide +kernel
theorem d_M_row_207 : decode md_M_row.2.1 207 = .ok (.goto 4, 3) := by decide +kernel
theorem d_M_row_210 : decode md_M_row.2.1 210 = .ok (.iconst 0, 1) := by decide +kernel
theorem d_M_row_211 : decode md_M_row.2.1 211 = .ok (.iadd, 1) := by decide +kernel
theorem d_M_row_212 : decode md_M_row.2.1 212 = .ok (.putfield 118, 3) := by decide +kernel
theorem d_M_row_215 : decode md_M_row.2.1 215 = .ok (.aload_n 0, 1) := by decide +kernel
theorem d_M_row_216 : decode md_M_row.2.1 216 = .ok (.getfield 94, 3) := by decide +kernel
theorem d_M_row_219 : decode md_M_row.2.1 219 = .ok (.ifCond .ne 23, 3) := by decide +kernel
theorem d_M_row_222 : decode md_M_row.2.1 222 = .ok (.aload_n 0, 1) := by decide +kernel
theorem d_M_row_223 : decode md_M_row.2.1 223 = .ok (.getfield 41, 3) := by decide +kernel
theorem d_M_row_226 : decode md_M_row.2.1 226 = .ok (.aload_n 0, 1) := by decide +kernel
theorem d_M_row_227 : decode md_M_row.2.1 227 = .ok (.getfield 77, 3) := by decide +kernel
theorem d_M_row_230 : decode md_M_row.2.1 230 = .ok (.lload_n 1, 1) := by decide +kernel
end
section
theorem d_M_row_231 : decode md_M_row.2.1 231 = .ok (.lastore, 1) := by decide +kernel
theorem d_M_row_232 : decode md_M_row.2.1 232 = .ok (.aload_n 0, 1) := by decide +kernel
theorem d_M_row_233 : decode md_M_row.2.1 233 = .ok (.dup, 1) := by decide +kernel
theorem d_M_row_234 : decode md_M_row.2.1 234 = .ok (.getfield 77, 3) := by decide +kernel
theorem d_M_row_237 : decode md_M_row.2.1 237 = .ok (.iconst 1, 1) := by decide +kernel
theorem d_M_row_238 : decode md_M_row.2.1 238 = .ok (.iadd, 1) := by decide +kernel
theorem d_M_row_239 : decode md_M_row.2.1 239 = .ok (.putfield 77, 3) := by decide +kernel
theorem d_M_row_242 : decode md_M_row.2.1 242 = .ok (.aload_n 0, 1) := by decide +kernel
theorem d_M_row_243 : decode md_M_row.2.1 243 = .ok (.getfield 94, 3) := by decide +kernel
theorem d_M_row_246 : decode md_M_row.2.1 246 = .ok (.iconst 1, 1) := by decide +kernel
theorem d_M_row_247 : decode md_M_row.2.1 247 = .ok (.if_icmp .ne 13, 3) := by decide +kernel
theorem d_M_row_250 : decode md_M_row.2.1 250 = .ok (.aload_n 0, 1) := by decide +kernel
theorem d_M_row_251 : decode md_M_row.2.1 251 = .ok (.lload_n 1, 1) := by decide +kernel
theorem d_M_row_252 : decode md_M_row.2.1 252 = .ok (.lload_n 3, 1) := by decide +kernel
theorem d_M_row_253 : decode md_M_row.2.1 253 = .ok (.lload 5, 2) := by decide +kernel
theorem d_M_row_255 : decode md_M_row.2.1 255 = .ok (.iload 9, 2) := by decide +kernel
theorem d_M_row_257 : decode md_M_row.2.1 257 = .ok (.invokevirtual 121, 3) := by decide +kernel
theorem d_M_row_260 : decode md_M_row.2.1 260 = .ok (.iconst 4, 1) := by decide +kernel
theorem d_M_row_261 : decode md_M_row.2.1 261 = .ok (.aload_n 0, 1) := by decide +kernel
theorem d_M_row_262 : decode md_M_row.2.1 262 = .ok (.getfield 94, 3) := by decide +kernel
theorem d_M_row_265 : decode md_M_row.2.1 265 = .ok (.iadd, 1) := by decide +kernel
theorem d_M_row_266 : decode md_M_row.2.1 266 = .ok (.ireturn, 1) := by decide +kernel
theorem d_M_row_267 : decode md_M_row.2.1 267 = .ok (.aload_n 0, 1) := by decide +kernel
theorem d_M_row_268 : decode md_M_row.2.1 268 = .ok (.iload 8, 2) := by decide +kernel
theorem d_M_row_270 : decode md_M_row.2.1 270 = .ok (.iconst (-1), 1) := by decide +kernel
theorem d_M_row_271 : decode md_M_row.2.1 271 = .ok (.if_icmp .ne 20, 3) := by decide +kernel
theorem d_M_row_274 : decode md_M_row.2.1 274 = .ok (.aload_n 0, 1) := by decide +kernel
theorem d_M_row_275 : decode md_M_row.2.1 275 = .ok (.getfield 74, 3) := by decide +kernel
theorem d_M_row_278 : decode md_M_row.2.1 278 = .ok (.bipush 30, 2) := by decide +kernel
theorem d_M_row_280 : decode md_M_row.2.1 280 = .ok (.if_icmp .ne 7, 3) := by decide +kernel
theorem d_M_row_283 : decode md_M_row.2.1 283 = .ok (.iconst 2, 1) := by decide +kernel
theorem d_M_row_284 : decode md_M_row.2.1 284 = .ok (.goto 24, 3) := by decide +kernel
theorem d_M_row_287 : decode md_M_row.2.1 287 = .ok (.iconst 0, 1) := by decide +kernel
theorem d_M_row_288 : decode md_M_row.2.1 288 = .ok (.goto 20, 3) := by decide +kernel
theorem d_M_row_291 : decode md_M_row.2.1 291 = .ok (.aload_n 0, 1) := by decide +kernel
theorem d_M_row_292 : decode md_M_row.2.1 292 = .ok (.getfield 29, 3) := by decide +kernel
theorem d_M_row_295 : decode md_M_row.2.1 295 = .ok (.iload 8, 2) := by decide +kernel
theorem d_M_row_297 : decode md_M_row.2.1 297 = .ok (.iaload, 1) := by decide +kernel
theorem d_M_row_298 : decode md_M_row.2.1 298 = .ok (.bipush 60, 2) := by decide +kernel
theorem d_M_row_300 : decode md_M_row.2.1 300 = .ok (.if_icmp .ne 7, 3) := by decide +kernel
theorem d_M_row_303 : decode md_M_row.2.1 303 = .ok (.iconst 2, 1) := by decide +kernel
theorem d_M_row_304 : decode md_M_row.2.1 304 = .ok (.goto 4, 3) := by decide +kernel
theorem d_M_row_307 : decode md_M_row.2.1 307 = .ok (.iconst 0, 1) := by decide +kernel
theorem d_M_row_308 : decode md_M_row.2.1 308 = .ok (.putfield 67, 3) := by decide +kernel
theorem d_M_row_311 : decode md_M_row.2.1 311 = .ok (.aload_n 0, 1) := by decide +kernel
theorem d_M_row_312 : decode md_M_row.2.1 312 = .ok (.getfield 67, 3) := by decide +kernel
theorem d_M_row_315 : decode md_M_row.2.1 315 = .ok (.ifCond .le 5, 3) := by decide +kernel
theorem d_M_row_318 : decode md_M_row.2.1 318 = .ok (.iconst 0, 1) := by decide +kernel
theorem d_M_row_319 : decode md_M_row.2.1 319 = .ok (.ireturn, 1) := by decide +kernel
theorem d_M_row_320 : decode md_M_row.2.1 320 = .ok (.iload 8, 2) := by decide +kernel
theorem d_M_row_322 : decode md_M_row.2.1 322 = .ok (.iconst (-1), 1) := by decide +kernel
theorem d_M_row_323 : decode md_M_row.2.1 323 = .ok (.if_icmp .ne 27, 3) := by decide +kernel
theorem d_M_row_326 : decode md_M_row.2.1 326 = .ok (.aload_n 0, 1) := by decide +kernel
theorem d_M_row_327 : decode md_M_row.2.1 327 = .ok (.getfield 74, 3) := by decide +kernel
theorem d_M_row_330 : decode md_M_row.2.1 330 = .ok (.istore 8, 2) := by decide +kernel
theorem d_M_row_332 : decode md_M_row.2.1 332 = .ok (.aload_n 0, 1) := by decide +kernel
theorem d_M_row_333 : decode md_M_row.2.1 333 = .ok (.getfield 26, 3) := by decide +kernel
theorem d_M_row_336 : decode md_M_row.2.1 336 = .ok (.iload 8, 2) := by decide +kernel
theorem d_M_row_338 : decode md_M_row.2.1 338 = .ok (.lload_n 1, 1) := by decide +kernel
theorem d_M_row_339 : decode md_M_row.2.1 339 = .ok (.lastore, 1) := by decide +kernel
theorem d_M_row_340 : decode md_M_row.2.1 340 = .ok (.aload_n 0, 1) := by decide +kernel
theorem d_M_row_341 : decode md_M_row.2.1 341 = .ok (.dup, 1) := by decide +kernel
theorem d_M_row_342 : decode md_M_row.2.1 342 = .ok (.getfield 74, 3) := by decide +kernel
theorem d_M_row_345 : decode md_M_row.2.1 345 = .ok (.iconst 1, 1) := by decide +kernel
theorem d_M_row_346 : decode md_M_row.2.1 346 = .ok (.iadd, 1) := by decide +kernel
theorem d_M_row_347 : decode md_M_row.2.1 347 = .ok (.putfield 74, 3) := by decide +kernel
theorem d_M_row_350 : decode md_M_row.2.1 350 = .ok (.aload_n 0, 1) := by decide +kernel
theorem d_M_row_351 : decode md_M_row.2.1 351 = .ok (.dup, 1) := by decide +kernel
theorem d_M_row_352 : decode md_M_row.2.1 352 = .ok (.getfield 118, 3) := by decide +kernel
theorem d_M_row_355 : decode md_M_row.2.1 355 = .ok (.iload 7, 2) := by decide +kernel
theorem d_M_row_357 : decode md_M_row.2.1 357 = .ok (.ifCond .eq 7, 3) := by decide +kernel
theorem d_M_row_360 : decode md_M_row.2.1 360 = .ok (.iconst 1, 1) := by decide +kernel
theorem d_M_row_361 : decode md_M_row.2.1 361 = .ok (.goto 4, 3) := by decide +kernel
theorem d_M_row_364 : decode md_M_row.2.1 364 = .ok (.iconst 0, 1) := by decide +kernel
theorem d_M_row_365 : decode md_M_row.2.1 365 = .ok (.iadd, 1) := by decide +kernel
theorem d_M_row_366 : decode md_M_row.2.1 366 = .ok (.putfield 118, 3) := by decide +kernel
theorem d_M_row_369 : decode md_M_row.2.1 369 = .ok (.aload_n 0, 1) := by decide +kernel
theorem d_M_row_370 : decode md_M_row.2.1 370 = .ok (.iload 8, 2) := by decide +kernel
theorem d_M_row_372 : decode md_M_row.2.1 372 = .ok (.lload_n 3, 1) := by decide +kernel
theorem d_M_row_373 : decode md_M_row.2.1 373 = .ok (.lload 5, 2) := by decide +kernel
theorem d_M_row_375 : decode md_M_row.2.1 375 = .ok (.invokevirtual 141, 3) := by decide +kernel
theorem d_M_row_378 : decode md_M_row.2.1 378 = .ok (.iconst 0, 1) := by decide +kernel
theorem d_M_row_379 : decode md_M_row.2.1 379 = .ok (.ireturn, 1) := by decide +kernel
theorem d_M_stopOf_0 : decode md_M_stopOf.2.1 0 = .ok (.iconst 0, 1) := by decide +kernel
theorem d_M_stopOf_1 : decode md_M_stopOf.2.1 1 = .ok (.istore_n 3, 1) := by decide +kernel
theorem d_M_stopOf_2 : decode md_M_stopOf.2.1 2 = .ok (.iload_n 3, 1) := by decide +kernel
theorem d_M_stopOf_3 : decode md_M_stopOf.2.1 3 = .ok (.aload_n 0, 1) := by decide +kernel
theorem d_M_stopOf_4 : decode md_M_stopOf.2.1 4 = .ok (.getfield 77, 3) := by decide +kernel
theorem d_M_stopOf_7 : decode md_M_stopOf.2.1 7 = .ok (.if_icmp .ge 20, 3) := by decide +kernel
theorem d_M_stopOf_10 : decode md_M_stopOf.2.1 10 = .ok (.aload_n 0, 1) := by decide +kernel
theorem d_M_stopOf_11 : decode md_M_stopOf.2.1 11 = .ok (.getfield 41, 3) := by decide +kernel
theorem d_M_stopOf_14 : decode md_M_stopOf.2.1 14 = .ok (.iload_n 3, 1) := by decide +kernel
theorem d_M_stopOf_15 : decode md_M_stopOf.2.1 15 = .ok (.laload, 1) := by decide +kernel
theorem d_M_stopOf_16 : decode md_M_stopOf.2.1 16 = .ok (.lload_n 1, 1) := by decide +kernel
theorem d_M_stopOf_17 : decode md_M_stopOf.2.1 17 = .ok (.lcmp, 1) := by decide +kernel
theorem d_M_stopOf_18 : decode md_M_stopOf.2.1 18 = .ok (.ifCond .eq 9, 3) := by decide +kernel
theorem d_M_stopOf_21 : decode md_M_stopOf.2.1 21 = .ok (.iinc 3 1, 3) := by decide +kernel
theorem d_M_stopOf_24 : decode md_M_stopOf.2.1 24 = .ok (.goto (-22), 3) := by decide +kernel
theorem d_M_stopOf_27 : decode md_M_stopOf.2.1 27 = .ok (.iload_n 3, 1) := by decide +kernel
theorem d_M_stopOf_28 : decode md_M_stopOf.2.1 28 = .ok (.aload_n 0, 1) := by decide +kernel
theorem d_M_stopOf_29 : decode md_M_stopOf.2.1 29 = .ok (.getfield 77, 3) := by decide +kernel
theorem d_M_stopOf_32 : decode md_M_stopOf.2.1 32 = .ok (.if_icmp .ge 7, 3) := by decide +kernel
theorem d_M_stopOf_35 : decode md_M_stopOf.2.1 35 = .ok (.iload_n 3, 1) := by decide +kernel
theorem d_M_stopOf_36 : decode md_M_stopOf.2.1 36 = .ok (.goto 4, 3) := by decide +kernel
theorem d_M_stopOf_39 : decode md_M_stopOf.2.1 39 = .ok (.iconst (-1), 1) := by decide +kernel
theorem d_M_stopOf_40 : decode md_M_stopOf.2.1 40 = .ok (.ireturn, 1) := by decide +kernel
theorem d_M_putAside_0 : decode md_M_putAside.2.1 0 = .ok (.aload_n 0, 1) := by decide +kernel
theorem d_M_putAside_1 : decode md_M_putAside.2.1 1 = .ok (.getfield 101, 3) := by decide +kernel
theorem d_M_putAside_4 : decode md_M_putAside.2.1 4 = .ok (.bipush 100, 2) := by decide +kernel
theorem d_M_putAside_6 : decode md_M_putAside.2.1 6 = .ok (.if_icmp .ge 60, 3) := by decide +kernel
theorem d_M_putAside_9 : decode md_M_putAside.2.1 9 = .ok (.aload_n 0, 1) := by decide +kernel
theorem d_M_putAside_10 : decode md_M_putAside.2.1 10 = .ok (.getfield 44, 3) := by decide +kernel
theorem d_M_putAside_13 : decode md_M_putAside.2.1 13 = .ok (.iconst 4, 1) := by decide +kernel
theorem d_M_putAside_14 : decode md_M_putAside.2.1 14 = .ok (.aload_n 0, 1) := by decide +kernel
theorem d_M_putAside_15 : decode md_M_putAside.2.1 15 = .ok (.getfield 101, 3) := by decide +kernel
theorem d_M_putAside_18 : decode md_M_putAside.2.1 18 = .ok (.imul, 1) := by decide +kernel
theorem d_M_putAside_19 : decode md_M_putAside.2.1 19 = .ok (.lload_n 1, 1) := by decide +kernel
theorem d_M_putAside_20 : decode md_M_putAside.2.1 20 = .ok (.lastore, 1) := by decide +kernel
theorem d_M_putAside_21 : decode md_M_putAside.2.1 21 = .ok (.aload_n 0, 1) := by decide +kernel
theorem d_M_putAside_22 : decode md_M_putAside.2.1 22 = .ok (.getfield 44, 3) := by decide +kernel
theorem d_M_putAside_25 : decode md_M_putAside.2.1 25 = .ok (.iconst 4, 1) := by decide +kernel
theorem d_M_putAside_26 : decode md_M_putAside.2.1 26 = .ok (.aload_n 0, 1) := by decide +kernel
theorem d_M_putAside_27 : decode md_M_putAside.2.1 27 = .ok (.getfield 101, 3) := by decide +kernel
theorem d_M_putAside_30 : decode md_M_putAside.2.1 30 = .ok (.imul, 1) := by decide +kernel
theorem d_M_putAside_31 : decode md_M_putAside.2.1 31 = .ok (.iconst 1, 1) := by decide +kernel
theorem d_M_putAside_32 : decode md_M_putAside.2.1 32 = .ok (.iadd, 1) := by decide +kernel
theorem d_M_putAside_33 : decode md_M_putAside.2.1 33 = .ok (.lload_n 3, 1) := by decide +kernel
theorem d_M_putAside_34 : decode md_M_putAside.2.1 34 = .ok (.lastore, 1) := by decide +kernel
theorem d_M_putAside_35 : decode md_M_putAside.2.1 35 = .ok (.aload_n 0, 1) := by decide +kernel
theorem d_M_putAside_36 : decode md_M_putAside.2.1 36 = .ok (.getfield 44, 3) := by decide +kernel
theorem d_M_putAside_39 : decode md_M_putAside.2.1 39 = .ok (.iconst 4, 1) := by decide +kernel
theorem d_M_putAside_40 : decode md_M_putAside.2.1 40 = .ok (.aload_n 0, 1) := by decide +kernel
theorem d_M_putAside_41 : decode md_M_putAside.2.1 41 = .ok (.getfield 101, 3) := by decide +kernel
theorem d_M_putAside_44 : decode md_M_putAside.2.1 44 = .ok (.imul, 1) := by decide +kernel
theorem d_M_putAside_45 : decode md_M_putAside.2.1 45 = .ok (.iconst 2, 1) := by decide +kernel
theorem d_M_putAside_46 : decode md_M_putAside.2.1 46 = .ok (.iadd, 1) := by decide +kernel
theorem d_M_putAside_47 : decode md_M_putAside.2.1 47 = .ok (.lload 5, 2) := by decide +kernel
theorem d_M_putAside_49 : decode md_M_putAside.2.1 49 = .ok (.lastore, 1) := by decide +kernel
theorem d_M_putAside_50 : decode md_M_putAside.2.1 50 = .ok (.aload_n 0, 1) := by decide +kernel
theorem d_M_putAside_51 : decode md_M_putAside.2.1 51 = .ok (.getfield 44, 3) := by decide +kernel
theorem d_M_putAside_54 : decode md_M_putAside.2.1 54 = .ok (.iconst 4, 1) := by decide +kernel
theorem d_M_putAside_55 : decode md_M_putAside.2.1 55 = .ok (.aload_n 0, 1) := by decide +kernel
theorem d_M_putAside_56 : decode md_M_putAside.2.1 56 = .ok (.getfield 101, 3) := by decide +kernel
theorem d_M_putAside_59 : decode md_M_putAside.2.1 59 = .ok (.imul, 1) := by decide +kernel
theorem d_M_putAside_60 : decode md_M_putAside.2.1 60 = .ok (.iconst 3, 1) := by decide +kernel
theorem d_M_putAside_61 : decode md_M_putAside.2.1 61 = .ok (.iadd, 1) := by decide +kernel
theorem d_M_putAside_62 : decode md_M_putAside.2.1 62 = .ok (.iload 7, 2) := by decide +kernel
theorem d_M_putAside_64 : decode md_M_putAside.2.1 64 = .ok (.i2l, 1) := by decide +kernel
theorem d_M_putAside_65 : decode md_M_putAside.2.1 65 = .ok (.lastore, 1) := by decide +kernel
theorem d_M_putAside_66 : decode md_M_putAside.2.1 66 = .ok (.aload_n 0, 1) := by decide +kernel
theorem d_M_putAside_67 : decode md_M_putAside.2.1 67 = .ok (.dup, 1) := by decide +kernel
theorem d_M_putAside_68 : decode md_M_putAside.2.1 68 = .ok (.getfield 101, 3) := by decide +kernel
theorem d_M_putAside_71 : decode md_M_putAside.2.1 71 = .ok (.iconst 1, 1) := by decide +kernel
theorem d_M_putAside_72 : decode md_M_putAside.2.1 72 = .ok (.iadd, 1) := by decide +kernel
theorem d_M_putAside_73 : decode md_M_putAside.2.1 73 = .ok (.putfield 101, 3) := by decide +kernel
theorem d_M_putAside_76 : decode md_M_putAside.2.1 76 = .ok (.return_, 1) := by decide +kernel
theorem d_M_keyOf_0 : decode md_M_keyOf.2.1 0 = .ok (.iconst 0, 1) := by decide +kernel
theorem d_M_keyOf_1 : decode md_M_keyOf.2.1 1 = .ok (.istore_n 3, 1) := by decide +kernel
theorem d_M_keyOf_2 : decode md_M_keyOf.2.1 2 = .ok (.iload_n 3, 1) := by decide +kernel
theorem d_M_keyOf_3 : decode md_M_keyOf.2.1 3 = .ok (.aload_n 0, 1) := by decide +kernel
theorem d_M_keyOf_4 : decode md_M_keyOf.2.1 4 = .ok (.getfield 74, 3) := by decide +kernel
theorem d_M_keyOf_7 : decode md_M_keyOf.2.1 7 = .ok (.if_icmp .ge 20, 3) := by decide +kernel
theorem d_M_keyOf_10 : decode md_M_keyOf.2.1 10 = .ok (.aload_n 0, 1) := by decide +kernel
theorem d_M_keyOf_11 : decode md_M_keyOf.2.1 11 = .ok (.getfield 26, 3) := by decide +kernel
theorem d_M_keyOf_14 : decode md_M_keyOf.2.1 14 = .ok (.iload_n 3, 1) := by decide +kernel
theorem d_M_keyOf_15 : decode md_M_keyOf.2.1 15 = .ok (.laload, 1) := by decide +kernel
theorem d_M_keyOf_16 : decode md_M_keyOf.2.1 16 = .ok (.lload_n 1, 1) := by decide +kernel
theorem d_M_keyOf_17 : decode md_M_keyOf.2.1 17 = .ok (.lcmp, 1) := by decide +kernel
theorem d_M_keyOf_18 : decode md_M_keyOf.2.1 18 = .ok (.ifCond .eq 9, 3) := by decide +kernel
theorem d_M_keyOf_21 : decode md_M_keyOf.2.1 21 = .ok (.iinc 3 1, 3) := by decide +kernel
theorem d_M_keyOf_24 : decode md_M_keyOf.2.1 24 = .ok (.goto (-22), 3) := by decide +kernel
theorem d_M_keyOf_27 : decode md_M_keyOf.2.1 27 = .ok (.iload_n 3, 1) := by decide +kernel
theorem d_M_keyOf_28 : decode md_M_keyOf.2.1 28 = .ok (.aload_n 0, 1) := by decide +kernel
theorem d_M_keyOf_29 : decode md_M_keyOf.2.1 29 = .ok (.getfield 74, 3) := by decide +kernel
theorem d_M_keyOf_32 : decode md_M_keyOf.2.1 32 = .ok (.if_icmp .ge 7, 3) := by decide +kernel
theorem d_M_keyOf_35 : decode md_M_keyOf.2.1 35 = .ok (.iload_n 3, 1) := by decide +kernel
theorem d_M_keyOf_36 : decode md_M_keyOf.2.1 36 = .ok (.goto 4, 3) := by decide +kernel
theorem d_M_keyOf_39 : decode md_M_keyOf.2.1 39 = .ok (.iconst (-1), 1) := by decide +kernel
theorem d_M_keyOf_40 : decode md_M_keyOf.2.1 40 = .ok (.ireturn, 1) := by decide +kernel
theorem d_M_isDouble_0 : decode md_M_isDouble.2.1 0 = .ok (.iconst 0, 1) := by decide +kernel
theorem d_M_isDouble_1 : decode md_M_isDouble.2.1 1 = .ok (.istore 6, 2) := by decide +kernel
theorem d_M_isDouble_3 : decode md_M_isDouble.2.1 3 = .ok (.iconst 0, 1) := by decide +kernel
theorem d_M_isDouble_4 : decode md_M_isDouble.2.1 4 = .ok (.istore 7, 2) := by decide +kernel
theorem d_M_isDouble_6 : decode md_M_isDouble.2.1 6 = .ok (.iload_n 1, 1) := by decide +kernel
theorem d_M_isDouble_7 : decode md_M_isDouble.2.1 7 = .ok (.iconst (-1), 1) := by decide +kernel
theorem d_M_isDouble_8 : decode md_M_isDouble.2.1 8 = .ok (.if_icmp .eq 88, 3) := by decide +kernel
theorem d_M_isDouble_11 : decode md_M_isDouble.2.1 11 = .ok (.iload 7, 2) := by decide +kernel
theorem d_M_isDouble_13 : decode md_M_isDouble.2.1 13 = .ok (.aload_n 0, 1) := by decide +kernel
theorem d_M_isDouble_14 : decode md_M_isDouble.2.1 14 = .ok (.getfield 29, 3) := by decide +kernel
theorem d_M_isDouble_17 : decode md_M_isDouble.2.1 17 = .ok (.iload_n 1, 1) := by decide +kernel
theorem d_M_isDouble_18 : decode md_M_isDouble.2.1 18 = .ok (.iaload, 1) := by decide +kernel
theorem d_M_isDouble_19 : decode md_M_isDouble.2.1 19 = .ok (.if_icmp .ge 77, 3) := by decide +kernel
theorem d_M_isDouble_22 : decode md_M_isDouble.2.1 22 = .ok (.lload_n 2, 1) := by decide +kernel
theorem d_M_isDouble_23 : decode md_M_isDouble.2.1 23 = .ok (.aload_n 0, 1) := by decide +kernel
theorem d_M_isDouble_24 : decode md_M_isDouble.2.1 24 = .ok (.getfield 35, 3) := by decide +kernel
theorem d_M_isDouble_27 : decode md_M_isDouble.2.1 27 = .ok (.bipush 62, 2) := by decide +kernel
theorem d_M_isDouble_29 : decode md_M_isDouble.2.1 29 = .ok (.iload_n 1, 1) := by decide +kernel
theorem d_M_isDouble_30 : decode md_M_isDouble.2.1 30 = .ok (.imul, 1) := by decide +kernel
theorem d_M_isDouble_31 : decode md_M_isDouble.2.1 31 = .ok (.iload 7, 2) := by decide +kernel
theorem d_M_isDouble_33 : decode md_M_isDouble.2.1 33 = .ok (.iadd, 1) := by decide +kernel
theorem d_M_isDouble_34 : decode md_M_isDouble.2.1 34 = .ok (.laload, 1) := by decide +kernel
theorem d_M_isDouble_35 : decode md_M_isDouble.2.1 35 = .ok (.lsub, 1) := by decide +kernel
theorem d_M_isDouble_36 : decode md_M_isDouble.2.1 36 = .ok (.lstore 8, 2) := by decide +kernel
theorem d_M_isDouble_38 : decode md_M_isDouble.2.1 38 = .ok (.iload 6, 2) := by decide +kernel
theorem d_M_isDouble_40 : decode md_M_isDouble.2.1 40 = .ok (.aload_n 0, 1) := by decide +kernel
theorem d_M_isDouble_41 : decode md_M_isDouble.2.1 41 = .ok (.getfield 38, 3) := by decide +kernel
theorem d_M_isDouble_44 : decode md_M_isDouble.2.1 44 = .ok (.bipush 62, 2) := by decide +kernel
theorem d_M_isDouble_46 : decode md_M_isDouble.2.1 46 = .ok (.iload_n 1, 1) := by decide +kernel
theorem d_M_isDouble_47 : decode md_M_isDouble.2.1 47 = .ok (.imul, 1) := by decide +kernel
theorem d_M_isDouble_48 : decode md_M_isDouble.2.1 48 = .ok (.iload 7, 2) := by decide +kernel
theorem d_M_isDouble_50 : decode md_M_isDouble.2.1 50 = .ok (.iadd, 1) := by decide +kernel
theorem d_M_isDouble_51 : decode md_M_isDouble.2.1 51 = .ok (.laload, 1) := by decide +kernel
theorem d_M_isDouble_52 : decode md_M_isDouble.2.1 52 = .ok (.lload 4, 2) := by decide +kernel
theorem d_M_isDouble_54 : decode md_M_isDouble.2.1 54 = .ok (.lcmp, 1) := by decide +kernel
theorem d_M_isDouble_55 : decode md_M_isDouble.2.1 55 = .ok (.ifCond .ne 31, 3) := by decide +kernel
theorem d_M_isDouble_58 : decode md_M_isDouble.2.1 58 = .ok (.lload 8, 2) := by decide +kernel
theorem d_M_isDouble_60 : decode md_M_isDouble.2.1 60 = .ok (.lconst 0, 1) := by decide +kernel
theorem d_M_isDouble_61 : decode md_M_isDouble.2.1 61 = .ok (.lcmp, 1) := by decide +kernel
theorem d_M_isDouble_62 : decode md_M_isDouble.2.1 62 = .ok (.ifCond .ge 9, 3) := by decide +kernel
theorem d_M_isDouble_65 : decode md_M_isDouble.2.1 65 = .ok (.lload 8, 2) := by decide +kernel
theorem d_M_isDouble_67 : decode md_M_isDouble.2.1 67 = .ok (.lneg, 1) := by decide +kernel
theorem d_M_isDouble_68 : decode md_M_isDouble.2.1 68 = .ok (.goto 5, 3) := by decide +kernel
theorem d_M_isDouble_71 : decode md_M_isDouble.2.1 71 = .ok (.lload 8, 2) := by decide +kernel
theorem d_M_isDouble_73 : decode md_M_isDouble.2.1 73 = .ok (.aload_n 0, 1) := by decide +kernel
theorem d_M_isDouble_74 : decode md_M_isDouble.2.1 74 = .ok (.getfield 61, 3) := by decide +kernel
theorem d_M_isDouble_77 : decode md_M_isDouble.2.1 77 = .ok (.i2l, 1) := by decide +kernel
theorem d_M_isDouble_78 : decode md_M_isDouble.2.1 78 = .ok (.lcmp, 1) := by decide +kernel
theorem d_M_isDouble_79 : decode md_M_isDouble.2.1 79 = .ok (.ifCond .ge 7, 3) := by decide +kernel
theorem d_M_isDouble_82 : decode md_M_isDouble.2.1 82 = .ok (.iconst 1, 1) := by decide +kernel
theorem d_M_isDouble_83 : decode md_M_isDouble.2.1 83 = .ok (.goto 4, 3) := by decide +kernel
theorem d_M_isDouble_86 : decode md_M_isDouble.2.1 86 = .ok (.iconst 0, 1) := by decide +kernel
theorem d_M_isDouble_87 : decode md_M_isDouble.2.1 87 = .ok (.ior, 1) := by decide +kernel
theorem d_M_isDouble_88 : decode md_M_isDouble.2.1 88 = .ok (.istore 6, 2) := by decide +kernel
theorem d_M_isDouble_90 : decode md_M_isDouble.2.1 90 = .ok (.iinc 7 1, 3) := by decide +kernel
theorem d_M_isDouble_93 : decode md_M_isDouble.2.1 93 = .ok (.goto (-87), 3) := by decide +kernel
theorem d_M_isDouble_96 : decode md_M_isDouble.2.1 96 = .ok (.iload 6, 2) := by decide +kernel
theorem d_M_isDouble_98 : decode md_M_isDouble.2.1 98 = .ok (.ireturn, 1) := by decide +kernel
theorem d_M_causeOf_0 : decode md_M_causeOf.2.1 0 = .ok (.iconst 0, 1) := by decide +kernel
theorem d_M_causeOf_1 : decode md_M_causeOf.2.1 1 = .ok (.istore_n 3, 1) := by decide +kernel
theorem d_M_causeOf_2 : decode md_M_causeOf.2.1 2 = .ok (.iload_n 3, 1) := by decide +kernel
theorem d_M_causeOf_3 : decode md_M_causeOf.2.1 3 = .ok (.aload_n 0, 1) := by decide +kernel
theorem d_M_causeOf_4 : decode md_M_causeOf.2.1 4 = .ok (.getfield 71, 3) := by decide +kernel
theorem d_M_causeOf_7 : decode md_M_causeOf.2.1 7 = .ok (.if_icmp .ge 20, 3) := by decide +kernel
theorem d_M_causeOf_10 : decode md_M_causeOf.2.1 10 = .ok (.aload_n 0, 1) := by decide +kernel
theorem d_M_causeOf_11 : decode md_M_causeOf.2.1 11 = .ok (.iload_n 3, 1) := by decide +kernel
theorem d_M_causeOf_12 : decode md_M_causeOf.2.1 12 = .ok (.lload_n 1, 1) := by decide +kernel
theorem d_M_causeOf_13 : decode md_M_causeOf.2.1 13 = .ok (.invokevirtual 87, 3) := by decide +kernel
theorem d_M_causeOf_16 : decode md_M_causeOf.2.1 16 = .ok (.ifCond .eq 5, 3) := by decide +kernel
theorem d_M_causeOf_19 : decode md_M_causeOf.2.1 19 = .ok (.iload_n 3, 1) := by decide +kernel
theorem d_M_causeOf_20 : decode md_M_causeOf.2.1 20 = .ok (.ireturn, 1) := by decide +kernel
theorem d_M_causeOf_21 : decode md_M_causeOf.2.1 21 = .ok (.iinc 3 1, 3) := by decide +kernel
theorem d_M_causeOf_24 : decode md_M_causeOf.2.1 24 = .ok (.goto (-22), 3) := by decide +kernel
theorem d_M_causeOf_27 : decode md_M_causeOf.2.1 27 = .ok (.iconst (-1), 1) := by decide +kernel
theorem d_M_causeOf_28 : decode md_M_causeOf.2.1 28 = .ok (.ireturn, 1) := by decide +kernel
theorem d_M_take_0 : decode md_M_take.2.1 0 = .ok (.aload_n 0, 1) := by decide +kernel
theorem d_M_take_1 : decode md_M_take.2.1 1 = .ok (.dup, 1) := by decide +kernel
theorem d_M_take_2 : decode md_M_take.2.1 2 = .ok (.getfield 80, 3) := by decide +kernel
theorem d_M_take_5 : decode md_M_take.2.1 5 = .ok (.iconst 1, 1) := by decide +kernel
theorem d_M_take_6 : decode md_M_take.2.1 6 = .ok (.iadd, 1) := by decide +kernel
theorem d_M_take_7 : decode md_M_take.2.1 7 = .ok (.putfield 80, 3) := by decide +kernel
theorem d_M_take_10 : decode md_M_take.2.1 10 = .ok (.aload_n 0, 1) := by decide +kernel
theorem d_M_take_11 : decode md_M_take.2.1 11 = .ok (.getfield 29, 3) := by decide +kernel
theorem d_M_take_14 : decode md_M_take.2.1 14 = .ok (.iload_n 1, 1) := by decide +kernel
theorem d_M_take_15 : decode md_M_take.2.1 15 = .ok (.iaload, 1) := by decide +kernel
theorem d_M_take_16 : decode md_M_take.2.1 16 = .ok (.istore 6, 2) := by decide +kernel
theorem d_M_take_18 : decode md_M_take.2.1 18 = .ok (.iload 6, 2) := by decide +kernel
theorem d_M_take_20 : decode md_M_take.2.1 20 = .ok (.ifCond .le 80, 3) := by decide +kernel
theorem d_M_take_23 : decode md_M_take.2.1 23 = .ok (.aload_n 0, 1) := by decide +kernel
theorem d_M_take_24 : decode md_M_take.2.1 24 = .ok (.getfield 35, 3) := by decide +kernel
theorem d_M_take_27 : decode md_M_take.2.1 27 = .ok (.bipush 62, 2) := by decide +kernel
theorem d_M_take_29 : decode md_M_take.2.1 29 = .ok (.iload_n 1, 1) := by decide +kernel
theorem d_M_take_30 : decode md_M_take.2.1 30 = .ok (.imul, 1) := by decide +kernel
theorem d_M_take_31 : decode md_M_take.2.1 31 = .ok (.iload 6, 2) := by decide +kernel
theorem d_M_take_33 : decode md_M_take.2.1 33 = .ok (.iadd, 1) := by decide +kernel
theorem d_M_take_34 : decode md_M_take.2.1 34 = .ok (.iconst 1, 1) := by decide +kernel
theorem d_M_take_35 : decode md_M_take.2.1 35 = .ok (.isub, 1) := by decide +kernel
theorem d_M_take_36 : decode md_M_take.2.1 36 = .ok (.laload, 1) := by decide +kernel
theorem d_M_take_37 : decode md_M_take.2.1 37 = .ok (.lload_n 2, 1) := by decide +kernel
theorem d_M_take_38 : decode md_M_take.2.1 38 = .ok (.lcmp, 1) := by decide +kernel
theorem d_M_take_39 : decode md_M_take.2.1 39 = .ok (.ifCond .le 61, 3) := by decide +kernel
theorem d_M_take_42 : decode md_M_take.2.1 42 = .ok (.aload_n 0, 1) := by decide +kernel
theorem d_M_take_43 : decode md_M_take.2.1 43 = .ok (.getfield 35, 3) := by decide +kernel
theorem d_M_take_46 : decode md_M_take.2.1 46 = .ok (.bipush 62, 2) := by decide +kernel
theorem d_M_take_48 : decode md_M_take.2.1 48 = .ok (.iload_n 1, 1) := by decide +kernel
theorem d_M_take_49 : decode md_M_take.2.1 49 = .ok (.imul, 1) := by decide +kernel
theorem d_M_take_50 : decode md_M_take.2.1 50 = .ok (.iload 6, 2) := by decide +kernel
theorem d_M_take_52 : decode md_M_take.2.1 52 = .ok (.iadd, 1) := by decide +kernel
theorem d_M_take_53 : decode md_M_take.2.1 53 = .ok (.aload_n 0, 1) := by decide +kernel
theorem d_M_take_54 : decode md_M_take.2.1 54 = .ok (.getfield 35, 3) := by decide +kernel
theorem d_M_take_57 : decode md_M_take.2.1 57 = .ok (.bipush 62, 2) := by decide +kernel
theorem d_M_take_59 : decode md_M_take.2.1 59 = .ok (.iload_n 1, 1) := by decide +kernel
theorem d_M_take_60 : decode md_M_take.2.1 60 = .ok (.imul, 1) := by decide +kernel
theorem d_M_take_61 : decode md_M_take.2.1 61 = .ok (.iload 6, 2) := by decide +kernel
theorem d_M_take_63 : decode md_M_take.2.1 63 = .ok (.iadd, 1) := by decide +kernel
theorem d_M_take_64 : decode md_M_take.2.1 64 = .ok (.iconst 1, 1) := by decide +kernel
theorem d_M_take_65 : decode md_M_take.2.1 65 = .ok (.isub, 1) := by decide +kernel
theorem d_M_take_66 : decode md_M_take.2.1 66 = .ok (.laload, 1) := by decide +kernel
theorem d_M_take_67 : decode md_M_take.2.1 67 = .ok (.lastore, 1) := by decide +kernel
theorem d_M_take_68 : decode md_M_take.2.1 68 = .ok (.aload_n 0, 1) := by decide +kernel
theorem d_M_take_69 : decode md_M_take.2.1 69 = .ok (.getfield 38, 3) := by decide +kernel
theorem d_M_take_72 : decode md_M_take.2.1 72 = .ok (.bipush 62, 2) := by decide +kernel
theorem d_M_take_74 : decode md_M_take.2.1 74 = .ok (.iload_n 1, 1) := by decide +kernel
theorem d_M_take_75 : decode md_M_take.2.1 75 = .ok (.imul, 1) := by decide +kernel
theorem d_M_take_76 : decode md_M_take.2.1 76 = .ok (.iload 6, 2) := by decide +kernel
theorem d_M_take_78 : decode md_M_take.2.1 78 = .ok (.iadd, 1) := by decide +kernel
theorem d_M_take_79 : decode md_M_take.2.1 79 = .ok (.aload_n 0, 1) := by decide +kernel
theorem d_M_take_80 : decode md_M_take.2.1 80 = .ok (.getfield 38, 3) := by decide +kernel
theorem d_M_take_83 : decode md_M_take.2.1 83 = .ok (.bipush 62, 2) := by decide +kernel
theorem d_M_take_85 : decode md_M_take.2.1 85 = .ok (.iload_n 1, 1) := by decide +kernel
theorem d_M_take_86 : decode md_M_take.2.1 86 = .ok (.imul, 1) := by decide +kernel
theorem d_M_take_87 : decode md_M_take.2.1 87 = .ok (.iload 6, 2) := by decide +kernel
theorem d_M_take_89 : decode md_M_take.2.1 89 = .ok (.iadd, 1) := by decide +kernel
theorem d_M_take_90 : decode md_M_take.2.1 90 = .ok (.iconst 1, 1) := by decide +kernel
theorem d_M_take_91 : decode md_M_take.2.1 91 = .ok (.isub, 1) := by decide +kernel
theorem d_M_take_92 : decode md_M_take.2.1 92 = .ok (.laload, 1) := by decide +kernel
theorem d_M_take_93 : decode md_M_take.2.1 93 = .ok (.lastore, 1) := by decide +kernel
theorem d_M_take_94 : decode md_M_take.2.1 94 = .ok (.iinc 6 (-1), 3) := by decide +kernel
theorem d_M_take_97 : decode md_M_take.2.1 97 = .ok (.goto (-79), 3) := by decide +kernel
theorem d_M_take_100 : decode md_M_take.2.1 100 = .ok (.aload_n 0, 1) := by decide +kernel
theorem d_M_take_101 : decode md_M_take.2.1 101 = .ok (.getfield 35, 3) := by decide +kernel
theorem d_M_take_104 : decode md_M_take.2.1 104 = .ok (.bipush 62, 2) := by decide +kernel
theorem d_M_take_106 : decode md_M_take.2.1 106 = .ok (.iload_n 1, 1) := by decide +kernel
theorem d_M_take_107 : decode md_M_take.2.1 107 = .ok (.imul, 1) := by decide +kernel
theorem d_M_take_108 : decode md_M_take.2.1 108 = .ok (.iload 6, 2) := by decide +kernel
theorem d_M_take_110 : decode md_M_take.2.1 110 = .ok (.iadd, 1) := by decide +kernel
theorem d_M_take_111 : decode md_M_take.2.1 111 = .ok (.lload_n 2, 1) := by decide +kernel
theorem d_M_take_112 : decode md_M_take.2.1 112 = .ok (.lastore, 1) := by decide +kernel
theorem d_M_take_113 : decode md_M_take.2.1 113 = .ok (.aload_n 0, 1) := by decide +kernel
theorem d_M_take_114 : decode md_M_take.2.1 114 = .ok (.getfield 38, 3) := by decide +kernel
theorem d_M_take_117 : decode md_M_take.2.1 117 = .ok (.bipush 62, 2) := by decide +kernel
theorem d_M_take_119 : decode md_M_take.2.1 119 = .ok (.iload_n 1, 1) := by decide +kernel
theorem d_M_take_120 : decode md_M_take.2.1 120 = .ok (.imul, 1) := by decide +kernel
theorem d_M_take_121 : decode md_M_take.2.1 121 = .ok (.iload 6, 2) := by decide +kernel
theorem d_M_take_123 : decode md_M_take.2.1 123 = .ok (.iadd, 1) := by decide +kernel
theorem d_M_take_124 : decode md_M_take.2.1 124 = .ok (.lload 4, 2) := by decide +kernel
theorem d_M_take_126 : decode md_M_take.2.1 126 = .ok (.lastore, 1) := by decide +kernel
theorem d_M_take_127 : decode md_M_take.2.1 127 = .ok (.aload_n 0, 1) := by decide +kernel
theorem d_M_take_128 : decode md_M_take.2.1 128 = .ok (.getfield 29, 3) := by decide +kernel
theorem d_M_take_131 : decode md_M_take.2.1 131 = .ok (.iload_n 1, 1) := by decide +kernel
theorem d_M_take_132 : decode md_M_take.2.1 132 = .ok (.dup2, 1) := by decide +kernel
theorem d_M_take_133 : decode md_M_take.2.1 133 = .ok (.iaload, 1) := by decide +kernel
theorem d_M_take_134 : decode md_M_take.2.1 134 = .ok (.iconst 1, 1) := by decide +kernel
theorem d_M_take_135 : decode md_M_take.2.1 135 = .ok (.iadd, 1) := by decide +kernel
theorem d_M_take_136 : decode md_M_take.2.1 136 = .ok (.iastore, 1) := by decide +kernel
theorem d_M_take_137 : decode md_M_take.2.1 137 = .ok (.iload 6, 2) := by decide +kernel
theorem d_M_take_139 : decode md_M_take.2.1 139 = .ok (.aload_n 0, 1) := by decide +kernel
theorem d_M_take_140 : decode md_M_take.2.1 140 = .ok (.getfield 29, 3) := by decide +kernel
theorem d_M_take_143 : decode md_M_take.2.1 143 = .ok (.iload_n 1, 1) := by decide +kernel
theorem d_M_take_144 : decode md_M_take.2.1 144 = .ok (.iaload, 1) := by decide +kernel
theorem d_M_take_145 : decode md_M_take.2.1 145 = .ok (.iconst 1, 1) := by decide +kernel
theorem d_M_take_146 : decode md_M_take.2.1 146 = .ok (.isub, 1) := by decide +kernel
theorem d_M_take_147 : decode md_M_take.2.1 147 = .ok (.if_icmp .ne 7, 3) := by decide +kernel
theorem d_M_take_150 : decode md_M_take.2.1 150 = .ok (.iconst 1, 1) := by decide +kernel
theorem d_M_take_151 : decode md_M_take.2.1 151 = .ok (.goto 4, 3) := by decide +kernel
theorem d_M_take_154 : decode md_M_take.2.1 154 = .ok (.iconst 0, 1) := by decide +kernel
theorem d_M_take_155 : decode md_M_take.2.1 155 = .ok (.istore 7, 2) := by decide +kernel
theorem d_M_take_157 : decode md_M_take.2.1 157 = .ok (.iconst 0, 1) := by decide +kernel
theorem d_M_take_158 : decode md_M_take.2.1 158 = .ok (.istore 8, 2) := by decide +kernel
theorem d_M_take_160 : decode md_M_take.2.1 160 = .ok (.iload 8, 2) := by decide +kernel
theorem d_M_take_162 : decode md_M_take.2.1 162 = .ok (.aload_n 0, 1) := by decide +kernel
theorem d_M_take_163 : decode md_M_take.2.1 163 = .ok (.getfield 71, 3) := by decide +kernel
theorem d_M_take_166 : decode md_M_take.2.1 166 = .ok (.if_icmp .ge 47, 3) := by decide +kernel
theorem d_M_take_169 : decode md_M_take.2.1 169 = .ok (.aload_n 0, 1) := by decide +kernel
theorem d_M_take_170 : decode md_M_take.2.1 170 = .ok (.getfield 32, 3) := by decide +kernel
theorem d_M_take_173 : decode md_M_take.2.1 173 = .ok (.iload_n 1, 1) := by decide +kernel
theorem d_M_take_174 : decode md_M_take.2.1 174 = .ok (.dup2, 1) := by decide +kernel
theorem d_M_take_175 : decode md_M_take.2.1 175 = .ok (.iaload, 1) := by decide +kernel
theorem d_M_take_176 : decode md_M_take.2.1 176 = .ok (.iload 7, 2) := by decide +kernel
theorem d_M_take_178 : decode md_M_take.2.1 178 = .ok (.ifCond .ne 17, 3) := by decide +kernel
theorem d_M_take_181 : decode md_M_take.2.1 181 = .ok (.aload_n 0, 1) := by decide +kernel
theorem d_M_take_182 : decode md_M_take.2.1 182 = .ok (.aload_n 0, 1) := by decide +kernel
theorem d_M_take_183 : decode md_M_take.2.1 183 = .ok (.getfield 7, 3) := by decide +kernel
theorem d_M_take_186 : decode md_M_take.2.1 186 = .ok (.iload 8, 2) := by decide +kernel
theorem d_M_take_188 : decode md_M_take.2.1 188 = .ok (.iaload, 1) := by decide +kernel
theorem d_M_take_189 : decode md_M_take.2.1 189 = .ok (.invokevirtual 145, 3) := by decide +kernel
theorem d_M_take_192 : decode md_M_take.2.1 192 = .ok (.ifCond .eq 7, 3) := by decide +kernel
theorem d_M_take_195 : decode md_M_take.2.1 195 = .ok (.iconst 1, 1) := by decide +kernel
theorem d_M_take_196 : decode md_M_take.2.1 196 = .ok (.goto 9, 3) := by decide +kernel
theorem d_M_take_199 : decode md_M_take.2.1 199 = .ok (.aload_n 0, 1) := by decide +kernel
theorem d_M_take_200 : decode md_M_take.2.1 200 = .ok (.getfield 29, 3) := by decide +kernel
theorem d_M_take_203 : decode md_M_take.2.1 203 = .ok (.iload_n 1, 1) := by decide +kernel
theorem d_M_take_204 : decode md_M_take.2.1 204 = .ok (.iaload, 1) := by decide +kernel
theorem d_M_take_205 : decode md_M_take.2.1 205 = .ok (.iadd, 1) := by decide +kernel
theorem d_M_take_206 : decode md_M_take.2.1 206 = .ok (.iastore, 1) := by decide +kernel
theorem d_M_take_207 : decode md_M_take.2.1 207 = .ok (.iinc 8 1, 3) := by decide +kernel
theorem d_M_take_210 : decode md_M_take.2.1 210 = .ok (.goto (-50), 3) := by decide +kernel
theorem d_M_take_213 : decode md_M_take.2.1 213 = .ok (.lload_n 2, 1) := by decide +kernel
theorem d_M_take_214 : decode md_M_take.2.1 214 = .ok (.aload_n 0, 1) := by decide +kernel
theorem d_M_take_215 : decode md_M_take.2.1 215 = .ok (.getfield 54, 3) := by decide +kernel
theorem d_M_take_218 : decode md_M_take.2.1 218 = .ok (.i2l, 1) := by decide +kernel
theorem d_M_take_219 : decode md_M_take.2.1 219 = .ok (.lsub, 1) := by decide +kernel
theorem d_M_take_220 : decode md_M_take.2.1 220 = .ok (.lstore 8, 2) := by decide +kernel
theorem d_M_take_222 : decode md_M_take.2.1 222 = .ok (.aload_n 0, 1) := by decide +kernel
theorem d_M_take_223 : decode md_M_take.2.1 223 = .ok (.getfield 110, 3) := by decide +kernel
theorem d_M_take_226 : decode md_M_take.2.1 226 = .ok (.ifCond .eq 13, 3) := by decide +kernel
theorem d_M_take_229 : decode md_M_take.2.1 229 = .ok (.lload 8, 2) := by decide +kernel
theorem d_M_take_231 : decode md_M_take.2.1 231 = .ok (.aload_n 0, 1) := by decide +kernel
theorem d_M_take_232 : decode md_M_take.2.1 232 = .ok (.getfield 114, 3) := by decide +kernel
theorem d_M_take_235 : decode md_M_take.2.1 235 = .ok (.lcmp, 1) := by decide +kernel
theorem d_M_take_236 : decode md_M_take.2.1 236 = .ok (.ifCond .le 9, 3) := by decide +kernel
end
section
theorem d_M_take_239 : decode md_M_take.2.1 239 = .ok (.aload_n 0, 1) := by decide +kernel
theorem d_M_take_240 : decode md_M_take.2.1 240 = .ok (.lload 8, 2) := by decide +kernel
theorem d_M_take_242 : decode md_M_take.2.1 242 = .ok (.putfield 114, 3) := by decide +kernel
theorem d_M_take_245 : decode md_M_take.2.1 245 = .ok (.aload_n 0, 1) := by decide +kernel
theorem d_M_take_246 : decode md_M_take.2.1 246 = .ok (.iconst 1, 1) := by decide +kernel
theorem d_M_take_247 : decode md_M_take.2.1 247 = .ok (.putfield 110, 3) := by decide +kernel
theorem d_M_take_250 : decode md_M_take.2.1 250 = .ok (.aload_n 0, 1) := by decide +kernel
theorem d_M_take_251 : decode md_M_take.2.1 251 = .ok (.getfield 58, 3) := by decide +kernel
theorem d_M_take_254 : decode md_M_take.2.1 254 = .ok (.ifCond .le 27, 3) := by decide +kernel
theorem d_M_take_257 : decode md_M_take.2.1 257 = .ok (.iconst 0, 1) := by decide +kernel
theorem d_M_take_258 : decode md_M_take.2.1 258 = .ok (.istore 10, 2) := by decide +kernel
theorem d_M_take_260 : decode md_M_take.2.1 260 = .ok (.iload 10, 2) := by decide +kernel
theorem d_M_take_262 : decode md_M_take.2.1 262 = .ok (.aload_n 0, 1) := by decide +kernel
theorem d_M_take_263 : decode md_M_take.2.1 263 = .ok (.getfield 74, 3) := by decide +kernel
theorem d_M_take_266 : decode md_M_take.2.1 266 = .ok (.if_icmp .ge 15, 3) := by decide +kernel
theorem d_M_take_269 : decode md_M_take.2.1 269 = .ok (.aload_n 0, 1) := by decide +kernel
theorem d_M_take_270 : decode md_M_take.2.1 270 = .ok (.iload 10, 2) := by decide +kernel
theorem d_M_take_272 : decode md_M_take.2.1 272 = .ok (.invokevirtual 148, 3) := by decide +kernel
theorem d_M_take_275 : decode md_M_take.2.1 275 = .ok (.iinc 10 1, 3) := by decide +kernel
theorem d_M_take_278 : decode md_M_take.2.1 278 = .ok (.goto (-18), 3) := by decide +kernel
theorem d_M_take_281 : decode md_M_take.2.1 281 = .ok (.aload_n 0, 1) := by decide +kernel
theorem d_M_take_282 : decode md_M_take.2.1 282 = .ok (.getfield 64, 3) := by decide +kernel
theorem d_M_take_285 : decode md_M_take.2.1 285 = .ok (.ifCond .le 7, 3) := by decide +kernel
theorem d_M_take_288 : decode md_M_take.2.1 288 = .ok (.aload_n 0, 1) := by decide +kernel
theorem d_M_take_289 : decode md_M_take.2.1 289 = .ok (.invokevirtual 152, 3) := by decide +kernel
theorem d_M_take_292 : decode md_M_take.2.1 292 = .ok (.return_, 1) := by decide +kernel
theorem d_M_mayBeJoined_0 : decode md_M_mayBeJoined.2.1 0 = .ok (.iload_n 1, 1) := by decide +kernel
theorem d_M_mayBeJoined_1 : decode md_M_mayBeJoined.2.1 1 = .ok (.iconst 2, 1) := by decide +kernel
theorem d_M_mayBeJoined_2 : decode md_M_mayBeJoined.2.1 2 = .ok (.if_icmp .le 15, 3) := by decide +kernel
theorem d_M_mayBeJoined_5 : decode md_M_mayBeJoined.2.1 5 = .ok (.iload_n 1, 1) := by decide +kernel
theorem d_M_mayBeJoined_6 : decode md_M_mayBeJoined.2.1 6 = .ok (.bipush 6, 2) := by decide +kernel
theorem d_M_mayBeJoined_8 : decode md_M_mayBeJoined.2.1 8 = .ok (.if_icmp .eq 9, 3) := by decide +kernel
theorem d_M_mayBeJoined_11 : decode md_M_mayBeJoined.2.1 11 = .ok (.iload_n 1, 1) := by decide +kernel
theorem d_M_mayBeJoined_12 : decode md_M_mayBeJoined.2.1 12 = .ok (.bipush 7, 2) := by decide +kernel
theorem d_M_mayBeJoined_14 : decode md_M_mayBeJoined.2.1 14 = .ok (.if_icmp .ne 7, 3) := by decide +kernel
theorem d_M_mayBeJoined_17 : decode md_M_mayBeJoined.2.1 17 = .ok (.iconst 1, 1) := by decide +kernel
theorem d_M_mayBeJoined_18 : decode md_M_mayBeJoined.2.1 18 = .ok (.goto 4, 3) := by decide +kernel
theorem d_M_mayBeJoined_21 : decode md_M_mayBeJoined.2.1 21 = .ok (.iconst 0, 1) := by decide +kernel
theorem d_M_mayBeJoined_22 : decode md_M_mayBeJoined.2.1 22 = .ok (.ireturn, 1) := by decide +kernel
theorem d_M_leave_0 : decode md_M_leave.2.1 0 = .ok (.iconst 0, 1) := by decide +kernel
theorem d_M_leave_1 : decode md_M_leave.2.1 1 = .ok (.istore_n 2, 1) := by decide +kernel
theorem d_M_leave_2 : decode md_M_leave.2.1 2 = .ok (.iload_n 2, 1) := by decide +kernel
theorem d_M_leave_3 : decode md_M_leave.2.1 3 = .ok (.aload_n 0, 1) := by decide +kernel
theorem d_M_leave_4 : decode md_M_leave.2.1 4 = .ok (.getfield 29, 3) := by decide +kernel
theorem d_M_leave_7 : decode md_M_leave.2.1 7 = .ok (.iload_n 1, 1) := by decide +kernel
theorem d_M_leave_8 : decode md_M_leave.2.1 8 = .ok (.iaload, 1) := by decide +kernel
theorem d_M_leave_9 : decode md_M_leave.2.1 9 = .ok (.if_icmp .ge 34, 3) := by decide +kernel
theorem d_M_leave_12 : decode md_M_leave.2.1 12 = .ok (.aload_n 0, 1) := by decide +kernel
theorem d_M_leave_13 : decode md_M_leave.2.1 13 = .ok (.getfield 35, 3) := by decide +kernel
theorem d_M_leave_16 : decode md_M_leave.2.1 16 = .ok (.bipush 62, 2) := by decide +kernel
theorem d_M_leave_18 : decode md_M_leave.2.1 18 = .ok (.iload_n 1, 1) := by decide +kernel
theorem d_M_leave_19 : decode md_M_leave.2.1 19 = .ok (.imul, 1) := by decide +kernel
theorem d_M_leave_20 : decode md_M_leave.2.1 20 = .ok (.iload_n 2, 1) := by decide +kernel
theorem d_M_leave_21 : decode md_M_leave.2.1 21 = .ok (.iadd, 1) := by decide +kernel
theorem d_M_leave_22 : decode md_M_leave.2.1 22 = .ok (.laload, 1) := by decide +kernel
theorem d_M_leave_23 : decode md_M_leave.2.1 23 = .ok (.aload_n 0, 1) := by decide +kernel
theorem d_M_leave_24 : decode md_M_leave.2.1 24 = .ok (.getfield 114, 3) := by decide +kernel
theorem d_M_leave_27 : decode md_M_leave.2.1 27 = .ok (.aload_n 0, 1) := by decide +kernel
theorem d_M_leave_28 : decode md_M_leave.2.1 28 = .ok (.getfield 58, 3) := by decide +kernel
theorem d_M_leave_31 : decode md_M_leave.2.1 31 = .ok (.i2l, 1) := by decide +kernel
theorem d_M_leave_32 : decode md_M_leave.2.1 32 = .ok (.lsub, 1) := by decide +kernel
theorem d_M_leave_33 : decode md_M_leave.2.1 33 = .ok (.lcmp, 1) := by decide +kernel
theorem d_M_leave_34 : decode md_M_leave.2.1 34 = .ok (.ifCond .ge 9, 3) := by decide +kernel
theorem d_M_leave_37 : decode md_M_leave.2.1 37 = .ok (.iinc 2 1, 3) := by decide +kernel
theorem d_M_leave_40 : decode md_M_leave.2.1 40 = .ok (.goto (-38), 3) := by decide +kernel
theorem d_M_leave_43 : decode md_M_leave.2.1 43 = .ok (.iload_n 2, 1) := by decide +kernel
theorem d_M_leave_44 : decode md_M_leave.2.1 44 = .ok (.ifCond .ne 4, 3) := by decide +kernel
theorem d_M_leave_47 : decode md_M_leave.2.1 47 = .ok (.return_, 1) := by decide +kernel
theorem d_M_leave_48 : decode md_M_leave.2.1 48 = .ok (.aload_n 0, 1) := by decide +kernel
theorem d_M_leave_49 : decode md_M_leave.2.1 49 = .ok (.getfield 29, 3) := by decide +kernel
theorem d_M_leave_52 : decode md_M_leave.2.1 52 = .ok (.iload_n 1, 1) := by decide +kernel
theorem d_M_leave_53 : decode md_M_leave.2.1 53 = .ok (.dup2, 1) := by decide +kernel
theorem d_M_leave_54 : decode md_M_leave.2.1 54 = .ok (.iaload, 1) := by decide +kernel
theorem d_M_leave_55 : decode md_M_leave.2.1 55 = .ok (.iload_n 2, 1) := by decide +kernel
theorem d_M_leave_56 : decode md_M_leave.2.1 56 = .ok (.isub, 1) := by decide +kernel
theorem d_M_leave_57 : decode md_M_leave.2.1 57 = .ok (.iastore, 1) := by decide +kernel
theorem d_M_leave_58 : decode md_M_leave.2.1 58 = .ok (.aload_n 0, 1) := by decide +kernel
theorem d_M_leave_59 : decode md_M_leave.2.1 59 = .ok (.dup, 1) := by decide +kernel
theorem d_M_leave_60 : decode md_M_leave.2.1 60 = .ok (.getfield 155, 3) := by decide +kernel
theorem d_M_leave_63 : decode md_M_leave.2.1 63 = .ok (.iload_n 2, 1) := by decide +kernel
theorem d_M_leave_64 : decode md_M_leave.2.1 64 = .ok (.iadd, 1) := by decide +kernel
theorem d_M_leave_65 : decode md_M_leave.2.1 65 = .ok (.putfield 155, 3) := by decide +kernel
theorem d_M_leave_68 : decode md_M_leave.2.1 68 = .ok (.iconst 0, 1) := by decide +kernel
theorem d_M_leave_69 : decode md_M_leave.2.1 69 = .ok (.istore_n 3, 1) := by decide +kernel
theorem d_M_leave_70 : decode md_M_leave.2.1 70 = .ok (.iload_n 3, 1) := by decide +kernel
theorem d_M_leave_71 : decode md_M_leave.2.1 71 = .ok (.aload_n 0, 1) := by decide +kernel
theorem d_M_leave_72 : decode md_M_leave.2.1 72 = .ok (.getfield 29, 3) := by decide +kernel
theorem d_M_leave_75 : decode md_M_leave.2.1 75 = .ok (.iload_n 1, 1) := by decide +kernel
theorem d_M_leave_76 : decode md_M_leave.2.1 76 = .ok (.iaload, 1) := by decide +kernel
theorem d_M_leave_77 : decode md_M_leave.2.1 77 = .ok (.if_icmp .ge 57, 3) := by decide +kernel
theorem d_M_leave_80 : decode md_M_leave.2.1 80 = .ok (.aload_n 0, 1) := by decide +kernel
theorem d_M_leave_81 : decode md_M_leave.2.1 81 = .ok (.getfield 35, 3) := by decide +kernel
theorem d_M_leave_84 : decode md_M_leave.2.1 84 = .ok (.bipush 62, 2) := by decide +kernel
theorem d_M_leave_86 : decode md_M_leave.2.1 86 = .ok (.iload_n 1, 1) := by decide +kernel
theorem d_M_leave_87 : decode md_M_leave.2.1 87 = .ok (.imul, 1) := by decide +kernel
theorem d_M_leave_88 : decode md_M_leave.2.1 88 = .ok (.iload_n 3, 1) := by decide +kernel
theorem d_M_leave_89 : decode md_M_leave.2.1 89 = .ok (.iadd, 1) := by decide +kernel
theorem d_M_leave_90 : decode md_M_leave.2.1 90 = .ok (.aload_n 0, 1) := by decide +kernel
theorem d_M_leave_91 : decode md_M_leave.2.1 91 = .ok (.getfield 35, 3) := by decide +kernel
theorem d_M_leave_94 : decode md_M_leave.2.1 94 = .ok (.bipush 62, 2) := by decide +kernel
theorem d_M_leave_96 : decode md_M_leave.2.1 96 = .ok (.iload_n 1, 1) := by decide +kernel
theorem d_M_leave_97 : decode md_M_leave.2.1 97 = .ok (.imul, 1) := by decide +kernel
theorem d_M_leave_98 : decode md_M_leave.2.1 98 = .ok (.iload_n 2, 1) := by decide +kernel
theorem d_M_leave_99 : decode md_M_leave.2.1 99 = .ok (.iadd, 1) := by decide +kernel
theorem d_M_leave_100 : decode md_M_leave.2.1 100 = .ok (.iload_n 3, 1) := by decide +kernel
theorem d_M_leave_101 : decode md_M_leave.2.1 101 = .ok (.iadd, 1) := by decide +kernel
theorem d_M_leave_102 : decode md_M_leave.2.1 102 = .ok (.laload, 1) := by decide +kernel
theorem d_M_leave_103 : decode md_M_leave.2.1 103 = .ok (.lastore, 1) := by decide +kernel
theorem d_M_leave_104 : decode md_M_leave.2.1 104 = .ok (.aload_n 0, 1) := by decide +kernel
theorem d_M_leave_105 : decode md_M_leave.2.1 105 = .ok (.getfield 38, 3) := by decide +kernel
theorem d_M_leave_108 : decode md_M_leave.2.1 108 = .ok (.bipush 62, 2) := by decide +kernel
theorem d_M_leave_110 : decode md_M_leave.2.1 110 = .ok (.iload_n 1, 1) := by decide +kernel
theorem d_M_leave_111 : decode md_M_leave.2.1 111 = .ok (.imul, 1) := by decide +kernel
theorem d_M_leave_112 : decode md_M_leave.2.1 112 = .ok (.iload_n 3, 1) := by decide +kernel
theorem d_M_leave_113 : decode md_M_leave.2.1 113 = .ok (.iadd, 1) := by decide +kernel
theorem d_M_leave_114 : decode md_M_leave.2.1 114 = .ok (.aload_n 0, 1) := by decide +kernel
theorem d_M_leave_115 : decode md_M_leave.2.1 115 = .ok (.getfield 38, 3) := by decide +kernel
theorem d_M_leave_118 : decode md_M_leave.2.1 118 = .ok (.bipush 62, 2) := by decide +kernel
theorem d_M_leave_120 : decode md_M_leave.2.1 120 = .ok (.iload_n 1, 1) := by decide +kernel
theorem d_M_leave_121 : decode md_M_leave.2.1 121 = .ok (.imul, 1) := by decide +kernel
theorem d_M_leave_122 : decode md_M_leave.2.1 122 = .ok (.iload_n 2, 1) := by decide +kernel
theorem d_M_leave_123 : decode md_M_leave.2.1 123 = .ok (.iadd, 1) := by decide +kernel
theorem d_M_leave_124 : decode md_M_leave.2.1 124 = .ok (.iload_n 3, 1) := by decide +kernel
theorem d_M_leave_125 : decode md_M_leave.2.1 125 = .ok (.iadd, 1) := by decide +kernel
theorem d_M_leave_126 : decode md_M_leave.2.1 126 = .ok (.laload, 1) := by decide +kernel
theorem d_M_leave_127 : decode md_M_leave.2.1 127 = .ok (.lastore, 1) := by decide +kernel
theorem d_M_leave_128 : decode md_M_leave.2.1 128 = .ok (.iinc 3 1, 3) := by decide +kernel
theorem d_M_leave_131 : decode md_M_leave.2.1 131 = .ok (.goto (-61), 3) := by decide +kernel
theorem d_M_leave_134 : decode md_M_leave.2.1 134 = .ok (.iconst 0, 1) := by decide +kernel
theorem d_M_leave_135 : decode md_M_leave.2.1 135 = .ok (.istore_n 3, 1) := by decide +kernel
theorem d_M_leave_136 : decode md_M_leave.2.1 136 = .ok (.iload_n 3, 1) := by decide +kernel
theorem d_M_leave_137 : decode md_M_leave.2.1 137 = .ok (.aload_n 0, 1) := by decide +kernel
theorem d_M_leave_138 : decode md_M_leave.2.1 138 = .ok (.getfield 71, 3) := by decide +kernel
theorem d_M_leave_141 : decode md_M_leave.2.1 141 = .ok (.if_icmp .ge 41, 3) := by decide +kernel
theorem d_M_leave_144 : decode md_M_leave.2.1 144 = .ok (.aload_n 0, 1) := by decide +kernel
theorem d_M_leave_145 : decode md_M_leave.2.1 145 = .ok (.getfield 32, 3) := by decide +kernel
theorem d_M_leave_148 : decode md_M_leave.2.1 148 = .ok (.iload_n 1, 1) := by decide +kernel
theorem d_M_leave_149 : decode md_M_leave.2.1 149 = .ok (.dup2, 1) := by decide +kernel
theorem d_M_leave_150 : decode md_M_leave.2.1 150 = .ok (.iaload, 1) := by decide +kernel
theorem d_M_leave_151 : decode md_M_leave.2.1 151 = .ok (.aload_n 0, 1) := by decide +kernel
theorem d_M_leave_152 : decode md_M_leave.2.1 152 = .ok (.aload_n 0, 1) := by decide +kernel
theorem d_M_leave_153 : decode md_M_leave.2.1 153 = .ok (.getfield 7, 3) := by decide +kernel
theorem d_M_leave_156 : decode md_M_leave.2.1 156 = .ok (.iload_n 3, 1) := by decide +kernel
theorem d_M_leave_157 : decode md_M_leave.2.1 157 = .ok (.iaload, 1) := by decide +kernel
theorem d_M_leave_158 : decode md_M_leave.2.1 158 = .ok (.invokevirtual 158, 3) := by decide +kernel
theorem d_M_leave_161 : decode md_M_leave.2.1 161 = .ok (.ifCond .eq 7, 3) := by decide +kernel
theorem d_M_leave_164 : decode md_M_leave.2.1 164 = .ok (.iload_n 2, 1) := by decide +kernel
theorem d_M_leave_165 : decode md_M_leave.2.1 165 = .ok (.goto 9, 3) := by decide +kernel
theorem d_M_leave_168 : decode md_M_leave.2.1 168 = .ok (.aload_n 0, 1) := by decide +kernel
theorem d_M_leave_169 : decode md_M_leave.2.1 169 = .ok (.getfield 29, 3) := by decide +kernel
theorem d_M_leave_172 : decode md_M_leave.2.1 172 = .ok (.iload_n 1, 1) := by decide +kernel
theorem d_M_leave_173 : decode md_M_leave.2.1 173 = .ok (.iaload, 1) := by decide +kernel
theorem d_M_leave_174 : decode md_M_leave.2.1 174 = .ok (.iadd, 1) := by decide +kernel
theorem d_M_leave_175 : decode md_M_leave.2.1 175 = .ok (.iastore, 1) := by decide +kernel
theorem d_M_leave_176 : decode md_M_leave.2.1 176 = .ok (.iinc 3 1, 3) := by decide +kernel
theorem d_M_leave_179 : decode md_M_leave.2.1 179 = .ok (.goto (-43), 3) := by decide +kernel
theorem d_M_leave_182 : decode md_M_leave.2.1 182 = .ok (.return_, 1) := by decide +kernel
theorem d_M_mayBeTakenBack_0 : decode md_M_mayBeTakenBack.2.1 0 = .ok (.iload_n 1, 1) := by decide +kernel
theorem d_M_mayBeTakenBack_1 : decode md_M_mayBeTakenBack.2.1 1 = .ok (.ifCond .eq 15, 3) := by decide +kernel
theorem d_M_mayBeTakenBack_4 : decode md_M_mayBeTakenBack.2.1 4 = .ok (.iload_n 1, 1) := by decide +kernel
theorem d_M_mayBeTakenBack_5 : decode md_M_mayBeTakenBack.2.1 5 = .ok (.bipush 6, 2) := by decide +kernel
theorem d_M_mayBeTakenBack_7 : decode md_M_mayBeTakenBack.2.1 7 = .ok (.if_icmp .eq 9, 3) := by decide +kernel
theorem d_M_mayBeTakenBack_10 : decode md_M_mayBeTakenBack.2.1 10 = .ok (.iload_n 1, 1) := by decide +kernel
theorem d_M_mayBeTakenBack_11 : decode md_M_mayBeTakenBack.2.1 11 = .ok (.bipush 7, 2) := by decide +kernel
theorem d_M_mayBeTakenBack_13 : decode md_M_mayBeTakenBack.2.1 13 = .ok (.if_icmp .ne 7, 3) := by decide +kernel
theorem d_M_mayBeTakenBack_16 : decode md_M_mayBeTakenBack.2.1 16 = .ok (.iconst 1, 1) := by decide +kernel
theorem d_M_mayBeTakenBack_17 : decode md_M_mayBeTakenBack.2.1 17 = .ok (.goto 4, 3) := by decide +kernel
theorem d_M_mayBeTakenBack_20 : decode md_M_mayBeTakenBack.2.1 20 = .ok (.iconst 0, 1) := by decide +kernel
theorem d_M_mayBeTakenBack_21 : decode md_M_mayBeTakenBack.2.1 21 = .ok (.ireturn, 1) := by decide +kernel
theorem d_M_timers_0 : decode md_M_timers.2.1 0 = .ok (.aload_n 0, 1) := by decide +kernel
theorem d_M_timers_1 : decode md_M_timers.2.1 1 = .ok (.getfield 114, 3) := by decide +kernel
theorem d_M_timers_4 : decode md_M_timers.2.1 4 = .ok (.lconst 0, 1) := by decide +kernel
theorem d_M_timers_5 : decode md_M_timers.2.1 5 = .ok (.lcmp, 1) := by decide +kernel
theorem d_M_timers_6 : decode md_M_timers.2.1 6 = .ok (.ifCond .ge 4, 3) := by decide +kernel
theorem d_M_timers_9 : decode md_M_timers.2.1 9 = .ok (.return_, 1) := by decide +kernel
theorem d_M_timers_10 : decode md_M_timers.2.1 10 = .ok (.aload_n 0, 1) := by decide +kernel
theorem d_M_timers_11 : decode md_M_timers.2.1 11 = .ok (.getfield 114, 3) := by decide +kernel
theorem d_M_timers_14 : decode md_M_timers.2.1 14 = .ok (.aload_n 0, 1) := by decide +kernel
theorem d_M_timers_15 : decode md_M_timers.2.1 15 = .ok (.getfield 64, 3) := by decide +kernel
theorem d_M_timers_18 : decode md_M_timers.2.1 18 = .ok (.i2l, 1) := by decide +kernel
theorem d_M_timers_19 : decode md_M_timers.2.1 19 = .ok (.ldiv, 1) := by decide +kernel
theorem d_M_timers_20 : decode md_M_timers.2.1 20 = .ok (.aload_n 0, 1) := by decide +kernel
theorem d_M_timers_21 : decode md_M_timers.2.1 21 = .ok (.getfield 64, 3) := by decide +kernel
theorem d_M_timers_24 : decode md_M_timers.2.1 24 = .ok (.i2l, 1) := by decide +kernel
theorem d_M_timers_25 : decode md_M_timers.2.1 25 = .ok (.lmul, 1) := by decide +kernel
theorem d_M_timers_26 : decode md_M_timers.2.1 26 = .ok (.lstore_n 1, 1) := by decide +kernel
theorem d_M_timers_27 : decode md_M_timers.2.1 27 = .ok (.lload_n 1, 1) := by decide +kernel
theorem d_M_timers_28 : decode md_M_timers.2.1 28 = .ok (.ldc2_w 161, 3) := by decide +kernel
theorem d_M_timers_31 : decode md_M_timers.2.1 31 = .ok (.aload_n 0, 1) := by decide +kernel
theorem d_M_timers_32 : decode md_M_timers.2.1 32 = .ok (.getfield 64, 3) := by decide +kernel
theorem d_M_timers_35 : decode md_M_timers.2.1 35 = .ok (.i2l, 1) := by decide +kernel
theorem d_M_timers_36 : decode md_M_timers.2.1 36 = .ok (.lmul, 1) := by decide +kernel
theorem d_M_timers_37 : decode md_M_timers.2.1 37 = .ok (.lsub, 1) := by decide +kernel
theorem d_M_timers_38 : decode md_M_timers.2.1 38 = .ok (.aload_n 0, 1) := by decide +kernel
theorem d_M_timers_39 : decode md_M_timers.2.1 39 = .ok (.getfield 163, 3) := by decide +kernel
theorem d_M_timers_42 : decode md_M_timers.2.1 42 = .ok (.aload_n 0, 1) := by decide +kernel
theorem d_M_timers_43 : decode md_M_timers.2.1 43 = .ok (.getfield 64, 3) := by decide +kernel
theorem d_M_timers_46 : decode md_M_timers.2.1 46 = .ok (.i2l, 1) := by decide +kernel
theorem d_M_timers_47 : decode md_M_timers.2.1 47 = .ok (.ladd, 1) := by decide +kernel
theorem d_M_timers_48 : decode md_M_timers.2.1 48 = .ok (.lcmp, 1) := by decide +kernel
theorem d_M_timers_49 : decode md_M_timers.2.1 49 = .ok (.ifCond .le 17, 3) := by decide +kernel
theorem d_M_timers_52 : decode md_M_timers.2.1 52 = .ok (.lload_n 1, 1) := by decide +kernel
theorem d_M_timers_53 : decode md_M_timers.2.1 53 = .ok (.ldc2_w 161, 3) := by decide +kernel
theorem d_M_timers_56 : decode md_M_timers.2.1 56 = .ok (.aload_n 0, 1) := by decide +kernel
theorem d_M_timers_57 : decode md_M_timers.2.1 57 = .ok (.getfield 64, 3) := by decide +kernel
theorem d_M_timers_60 : decode md_M_timers.2.1 60 = .ok (.i2l, 1) := by decide +kernel
theorem d_M_timers_61 : decode md_M_timers.2.1 61 = .ok (.lmul, 1) := by decide +kernel
theorem d_M_timers_62 : decode md_M_timers.2.1 62 = .ok (.lsub, 1) := by decide +kernel
theorem d_M_timers_63 : decode md_M_timers.2.1 63 = .ok (.goto 13, 3) := by decide +kernel
theorem d_M_timers_66 : decode md_M_timers.2.1 66 = .ok (.aload_n 0, 1) := by decide +kernel
theorem d_M_timers_67 : decode md_M_timers.2.1 67 = .ok (.getfield 163, 3) := by decide +kernel
theorem d_M_timers_70 : decode md_M_timers.2.1 70 = .ok (.aload_n 0, 1) := by decide +kernel
theorem d_M_timers_71 : decode md_M_timers.2.1 71 = .ok (.getfield 64, 3) := by decide +kernel
theorem d_M_timers_74 : decode md_M_timers.2.1 74 = .ok (.i2l, 1) := by decide +kernel
theorem d_M_timers_75 : decode md_M_timers.2.1 75 = .ok (.ladd, 1) := by decide +kernel
theorem d_M_timers_76 : decode md_M_timers.2.1 76 = .ok (.lstore_n 3, 1) := by decide +kernel
theorem d_M_timers_77 : decode md_M_timers.2.1 77 = .ok (.lload_n 3, 1) := by decide +kernel
theorem d_M_timers_78 : decode md_M_timers.2.1 78 = .ok (.lstore 5, 2) := by decide +kernel
theorem d_M_timers_80 : decode md_M_timers.2.1 80 = .ok (.lload 5, 2) := by decide +kernel
theorem d_M_timers_82 : decode md_M_timers.2.1 82 = .ok (.lload_n 1, 1) := by decide +kernel
theorem d_M_timers_83 : decode md_M_timers.2.1 83 = .ok (.lcmp, 1) := by decide +kernel
theorem d_M_timers_84 : decode md_M_timers.2.1 84 = .ok (.ifCond .gt 68, 3) := by decide +kernel
theorem d_M_timers_87 : decode md_M_timers.2.1 87 = .ok (.iconst 0, 1) := by decide +kernel
theorem d_M_timers_88 : decode md_M_timers.2.1 88 = .ok (.istore 7, 2) := by decide +kernel
theorem d_M_timers_90 : decode md_M_timers.2.1 90 = .ok (.iload 7, 2) := by decide +kernel
theorem d_M_timers_92 : decode md_M_timers.2.1 92 = .ok (.aload_n 0, 1) := by decide +kernel
theorem d_M_timers_93 : decode md_M_timers.2.1 93 = .ok (.getfield 74, 3) := by decide +kernel
theorem d_M_timers_96 : decode md_M_timers.2.1 96 = .ok (.if_icmp .ge 43, 3) := by decide +kernel
theorem d_M_timers_99 : decode md_M_timers.2.1 99 = .ok (.aload_n 0, 1) := by decide +kernel
theorem d_M_timers_100 : decode md_M_timers.2.1 100 = .ok (.getfield 29, 3) := by decide +kernel
theorem d_M_timers_103 : decode md_M_timers.2.1 103 = .ok (.iload 7, 2) := by decide +kernel
theorem d_M_timers_105 : decode md_M_timers.2.1 105 = .ok (.iaload, 1) := by decide +kernel
theorem d_M_timers_106 : decode md_M_timers.2.1 106 = .ok (.ifCond .le 27, 3) := by decide +kernel
theorem d_M_timers_109 : decode md_M_timers.2.1 109 = .ok (.aload_n 0, 1) := by decide +kernel
theorem d_M_timers_110 : decode md_M_timers.2.1 110 = .ok (.getfield 35, 3) := by decide +kernel
theorem d_M_timers_113 : decode md_M_timers.2.1 113 = .ok (.bipush 62, 2) := by decide +kernel
theorem d_M_timers_115 : decode md_M_timers.2.1 115 = .ok (.iload 7, 2) := by decide +kernel
theorem d_M_timers_117 : decode md_M_timers.2.1 117 = .ok (.imul, 1) := by decide +kernel
theorem d_M_timers_118 : decode md_M_timers.2.1 118 = .ok (.laload, 1) := by decide +kernel
theorem d_M_timers_119 : decode md_M_timers.2.1 119 = .ok (.lload 5, 2) := by decide +kernel
theorem d_M_timers_121 : decode md_M_timers.2.1 121 = .ok (.lcmp, 1) := by decide +kernel
theorem d_M_timers_122 : decode md_M_timers.2.1 122 = .ok (.ifCond .ge 11, 3) := by decide +kernel
theorem d_M_timers_125 : decode md_M_timers.2.1 125 = .ok (.aload_n 0, 1) := by decide +kernel
theorem d_M_timers_126 : decode md_M_timers.2.1 126 = .ok (.iload 7, 2) := by decide +kernel
theorem d_M_timers_128 : decode md_M_timers.2.1 128 = .ok (.lload 5, 2) := by decide +kernel
theorem d_M_timers_130 : decode md_M_timers.2.1 130 = .ok (.invokevirtual 166, 3) := by decide +kernel
theorem d_M_timers_133 : decode md_M_timers.2.1 133 = .ok (.iinc 7 1, 3) := by decide +kernel
theorem d_M_timers_136 : decode md_M_timers.2.1 136 = .ok (.goto (-46), 3) := by decide +kernel
theorem d_M_timers_139 : decode md_M_timers.2.1 139 = .ok (.lload 5, 2) := by decide +kernel
theorem d_M_timers_141 : decode md_M_timers.2.1 141 = .ok (.aload_n 0, 1) := by decide +kernel
theorem d_M_timers_142 : decode md_M_timers.2.1 142 = .ok (.getfield 64, 3) := by decide +kernel
theorem d_M_timers_145 : decode md_M_timers.2.1 145 = .ok (.i2l, 1) := by decide +kernel
theorem d_M_timers_146 : decode md_M_timers.2.1 146 = .ok (.ladd, 1) := by decide +kernel
theorem d_M_timers_147 : decode md_M_timers.2.1 147 = .ok (.lstore 5, 2) := by decide +kernel
theorem d_M_timers_149 : decode md_M_timers.2.1 149 = .ok (.goto (-69), 3) := by decide +kernel
theorem d_M_timers_152 : decode md_M_timers.2.1 152 = .ok (.lload_n 1, 1) := by decide +kernel
theorem d_M_timers_153 : decode md_M_timers.2.1 153 = .ok (.aload_n 0, 1) := by decide +kernel
theorem d_M_timers_154 : decode md_M_timers.2.1 154 = .ok (.getfield 163, 3) := by decide +kernel
theorem d_M_timers_157 : decode md_M_timers.2.1 157 = .ok (.lcmp, 1) := by decide +kernel
theorem d_M_timers_158 : decode md_M_timers.2.1 158 = .ok (.ifCond .le 8, 3) := by decide +kernel
theorem d_M_timers_161 : decode md_M_timers.2.1 161 = .ok (.aload_n 0, 1) := by decide +kernel
theorem d_M_timers_162 : decode md_M_timers.2.1 162 = .ok (.lload_n 1, 1) := by decide +kernel
theorem d_M_timers_163 : decode md_M_timers.2.1 163 = .ok (.putfield 163, 3) := by decide +kernel
theorem d_M_timers_166 : decode md_M_timers.2.1 166 = .ok (.return_, 1) := by decide +kernel
theorem d_M_tell_0 : decode md_M_tell.2.1 0 = .ok (.aload_n 0, 1) := by decide +kernel
theorem d_M_tell_1 : decode md_M_tell.2.1 1 = .ok (.getfield 170, 3) := by decide +kernel
theorem d_M_tell_4 : decode md_M_tell.2.1 4 = .ok (.sipush 300, 3) := by decide +kernel
theorem d_M_tell_7 : decode md_M_tell.2.1 7 = .ok (.if_icmp .ge 79, 3) := by decide +kernel
theorem d_M_tell_10 : decode md_M_tell.2.1 10 = .ok (.aload_n 0, 1) := by decide +kernel
theorem d_M_tell_11 : decode md_M_tell.2.1 11 = .ok (.getfield 47, 3) := by decide +kernel
theorem d_M_tell_14 : decode md_M_tell.2.1 14 = .ok (.bipush 8, 2) := by decide +kernel
theorem d_M_tell_16 : decode md_M_tell.2.1 16 = .ok (.aload_n 0, 1) := by decide +kernel
theorem d_M_tell_17 : decode md_M_tell.2.1 17 = .ok (.getfield 170, 3) := by decide +kernel
theorem d_M_tell_20 : decode md_M_tell.2.1 20 = .ok (.imul, 1) := by decide +kernel
theorem d_M_tell_21 : decode md_M_tell.2.1 21 = .ok (.lload_n 2, 1) := by decide +kernel
theorem d_M_tell_22 : decode md_M_tell.2.1 22 = .ok (.lastore, 1) := by decide +kernel
theorem d_M_tell_23 : decode md_M_tell.2.1 23 = .ok (.aload_n 0, 1) := by decide +kernel
theorem d_M_tell_24 : decode md_M_tell.2.1 24 = .ok (.getfield 47, 3) := by decide +kernel
theorem d_M_tell_27 : decode md_M_tell.2.1 27 = .ok (.bipush 8, 2) := by decide +kernel
theorem d_M_tell_29 : decode md_M_tell.2.1 29 = .ok (.aload_n 0, 1) := by decide +kernel
theorem d_M_tell_30 : decode md_M_tell.2.1 30 = .ok (.getfield 170, 3) := by decide +kernel
theorem d_M_tell_33 : decode md_M_tell.2.1 33 = .ok (.imul, 1) := by decide +kernel
theorem d_M_tell_34 : decode md_M_tell.2.1 34 = .ok (.iconst 1, 1) := by decide +kernel
theorem d_M_tell_35 : decode md_M_tell.2.1 35 = .ok (.iadd, 1) := by decide +kernel
theorem d_M_tell_36 : decode md_M_tell.2.1 36 = .ok (.aload_n 0, 1) := by decide +kernel
theorem d_M_tell_37 : decode md_M_tell.2.1 37 = .ok (.getfield 26, 3) := by decide +kernel
theorem d_M_tell_40 : decode md_M_tell.2.1 40 = .ok (.iload_n 1, 1) := by decide +kernel
theorem d_M_tell_41 : decode md_M_tell.2.1 41 = .ok (.laload, 1) := by decide +kernel
theorem d_M_tell_42 : decode md_M_tell.2.1 42 = .ok (.lastore, 1) := by decide +kernel
theorem d_M_tell_43 : decode md_M_tell.2.1 43 = .ok (.iconst 0, 1) := by decide +kernel
theorem d_M_tell_44 : decode md_M_tell.2.1 44 = .ok (.istore 4, 2) := by decide +kernel
theorem d_M_tell_46 : decode md_M_tell.2.1 46 = .ok (.iload 4, 2) := by decide +kernel
theorem d_M_tell_48 : decode md_M_tell.2.1 48 = .ok (.aload_n 0, 1) := by decide +kernel
theorem d_M_tell_49 : decode md_M_tell.2.1 49 = .ok (.getfield 71, 3) := by decide +kernel
theorem d_M_tell_52 : decode md_M_tell.2.1 52 = .ok (.if_icmp .ge 34, 3) := by decide +kernel
theorem d_M_tell_55 : decode md_M_tell.2.1 55 = .ok (.aload_n 0, 1) := by decide +kernel
theorem d_M_tell_56 : decode md_M_tell.2.1 56 = .ok (.getfield 47, 3) := by decide +kernel
theorem d_M_tell_59 : decode md_M_tell.2.1 59 = .ok (.bipush 8, 2) := by decide +kernel
theorem d_M_tell_61 : decode md_M_tell.2.1 61 = .ok (.aload_n 0, 1) := by decide +kernel
theorem d_M_tell_62 : decode md_M_tell.2.1 62 = .ok (.getfield 170, 3) := by decide +kernel
theorem d_M_tell_65 : decode md_M_tell.2.1 65 = .ok (.imul, 1) := by decide +kernel
theorem d_M_tell_66 : decode md_M_tell.2.1 66 = .ok (.iconst 2, 1) := by decide +kernel
theorem d_M_tell_67 : decode md_M_tell.2.1 67 = .ok (.iadd, 1) := by decide +kernel
theorem d_M_tell_68 : decode md_M_tell.2.1 68 = .ok (.iload 4, 2) := by decide +kernel
theorem d_M_tell_70 : decode md_M_tell.2.1 70 = .ok (.iadd, 1) := by decide +kernel
theorem d_M_tell_71 : decode md_M_tell.2.1 71 = .ok (.aload_n 0, 1) := by decide +kernel
theorem d_M_tell_72 : decode md_M_tell.2.1 72 = .ok (.iload_n 1, 1) := by decide +kernel
theorem d_M_tell_73 : decode md_M_tell.2.1 73 = .ok (.iload 4, 2) := by decide +kernel
theorem d_M_tell_75 : decode md_M_tell.2.1 75 = .ok (.lload_n 2, 1) := by decide +kernel
theorem d_M_tell_76 : decode md_M_tell.2.1 76 = .ok (.invokevirtual 173, 3) := by decide +kernel
theorem d_M_tell_79 : decode md_M_tell.2.1 79 = .ok (.lastore, 1) := by decide +kernel
theorem d_M_tell_80 : decode md_M_tell.2.1 80 = .ok (.iinc 4 1, 3) := by decide +kernel
theorem d_M_tell_83 : decode md_M_tell.2.1 83 = .ok (.goto (-37), 3) := by decide +kernel
theorem d_M_tell_86 : decode md_M_tell.2.1 86 = .ok (.aload_n 0, 1) := by decide +kernel
theorem d_M_tell_87 : decode md_M_tell.2.1 87 = .ok (.dup, 1) := by decide +kernel
theorem d_M_tell_88 : decode md_M_tell.2.1 88 = .ok (.getfield 170, 3) := by decide +kernel
theorem d_M_tell_91 : decode md_M_tell.2.1 91 = .ok (.iconst 1, 1) := by decide +kernel
theorem d_M_tell_92 : decode md_M_tell.2.1 92 = .ok (.iadd, 1) := by decide +kernel
theorem d_M_tell_93 : decode md_M_tell.2.1 93 = .ok (.putfield 170, 3) := by decide +kernel
theorem d_M_tell_96 : decode md_M_tell.2.1 96 = .ok (.return_, 1) := by decide +kernel
theorem d_M_foldOf_0 : decode md_M_foldOf.2.1 0 = .ok (.aload_n 0, 1) := by decide +kernel
theorem d_M_foldOf_1 : decode md_M_foldOf.2.1 1 = .ok (.getfield 13, 3) := by decide +kernel
theorem d_M_foldOf_4 : decode md_M_foldOf.2.1 4 = .ok (.iload_n 2, 1) := by decide +kernel
theorem d_M_foldOf_5 : decode md_M_foldOf.2.1 5 = .ok (.laload, 1) := by decide +kernel
theorem d_M_foldOf_6 : decode md_M_foldOf.2.1 6 = .ok (.lstore 5, 2) := by decide +kernel
theorem d_M_foldOf_8 : decode md_M_foldOf.2.1 8 = .ok (.iconst 0, 1) := by decide +kernel
theorem d_M_foldOf_9 : decode md_M_foldOf.2.1 9 = .ok (.istore 7, 2) := by decide +kernel
theorem d_M_foldOf_11 : decode md_M_foldOf.2.1 11 = .ok (.iload 7, 2) := by decide +kernel
theorem d_M_foldOf_13 : decode md_M_foldOf.2.1 13 = .ok (.aload_n 0, 1) := by decide +kernel
theorem d_M_foldOf_14 : decode md_M_foldOf.2.1 14 = .ok (.getfield 29, 3) := by decide +kernel
theorem d_M_foldOf_17 : decode md_M_foldOf.2.1 17 = .ok (.iload_n 1, 1) := by decide +kernel
theorem d_M_foldOf_18 : decode md_M_foldOf.2.1 18 = .ok (.iaload, 1) := by decide +kernel
theorem d_M_foldOf_19 : decode md_M_foldOf.2.1 19 = .ok (.if_icmp .ge 81, 3) := by decide +kernel
theorem d_M_foldOf_22 : decode md_M_foldOf.2.1 22 = .ok (.bipush 62, 2) := by decide +kernel
theorem d_M_foldOf_24 : decode md_M_foldOf.2.1 24 = .ok (.iload_n 1, 1) := by decide +kernel
theorem d_M_foldOf_25 : decode md_M_foldOf.2.1 25 = .ok (.imul, 1) := by decide +kernel
theorem d_M_foldOf_26 : decode md_M_foldOf.2.1 26 = .ok (.iload 7, 2) := by decide +kernel
theorem d_M_foldOf_28 : decode md_M_foldOf.2.1 28 = .ok (.iadd, 1) := by decide +kernel
theorem d_M_foldOf_29 : decode md_M_foldOf.2.1 29 = .ok (.istore 8, 2) := by decide +kernel
theorem d_M_foldOf_31 : decode md_M_foldOf.2.1 31 = .ok (.aload_n 0, 1) := by decide +kernel
theorem d_M_foldOf_32 : decode md_M_foldOf.2.1 32 = .ok (.getfield 35, 3) := by decide +kernel
theorem d_M_foldOf_35 : decode md_M_foldOf.2.1 35 = .ok (.iload 8, 2) := by decide +kernel
theorem d_M_foldOf_37 : decode md_M_foldOf.2.1 37 = .ok (.laload, 1) := by decide +kernel
theorem d_M_foldOf_38 : decode md_M_foldOf.2.1 38 = .ok (.lload_n 3, 1) := by decide +kernel
theorem d_M_foldOf_39 : decode md_M_foldOf.2.1 39 = .ok (.lcmp, 1) := by decide +kernel
theorem d_M_foldOf_40 : decode md_M_foldOf.2.1 40 = .ok (.ifCond .ge 54, 3) := by decide +kernel
theorem d_M_foldOf_43 : decode md_M_foldOf.2.1 43 = .ok (.aload_n 0, 1) := by decide +kernel
theorem d_M_foldOf_44 : decode md_M_foldOf.2.1 44 = .ok (.iload_n 2, 1) := by decide +kernel
theorem d_M_foldOf_45 : decode md_M_foldOf.2.1 45 = .ok (.lload 5, 2) := by decide +kernel
theorem d_M_foldOf_47 : decode md_M_foldOf.2.1 47 = .ok (.aload_n 0, 1) := by decide +kernel
theorem d_M_foldOf_48 : decode md_M_foldOf.2.1 48 = .ok (.getfield 35, 3) := by decide +kernel
theorem d_M_foldOf_51 : decode md_M_foldOf.2.1 51 = .ok (.iload 8, 2) := by decide +kernel
theorem d_M_foldOf_53 : decode md_M_foldOf.2.1 53 = .ok (.laload, 1) := by decide +kernel
theorem d_M_foldOf_54 : decode md_M_foldOf.2.1 54 = .ok (.aload_n 0, 1) := by decide +kernel
theorem d_M_foldOf_55 : decode md_M_foldOf.2.1 55 = .ok (.getfield 38, 3) := by decide +kernel
theorem d_M_foldOf_58 : decode md_M_foldOf.2.1 58 = .ok (.iload 8, 2) := by decide +kernel
theorem d_M_foldOf_60 : decode md_M_foldOf.2.1 60 = .ok (.laload, 1) := by decide +kernel
theorem d_M_foldOf_61 : decode md_M_foldOf.2.1 61 = .ok (.iload 7, 2) := by decide +kernel
theorem d_M_foldOf_63 : decode md_M_foldOf.2.1 63 = .ok (.ifCond .ne 7, 3) := by decide +kernel
theorem d_M_foldOf_66 : decode md_M_foldOf.2.1 66 = .ok (.iconst 1, 1) := by decide +kernel
theorem d_M_foldOf_67 : decode md_M_foldOf.2.1 67 = .ok (.goto 4, 3) := by decide +kernel
theorem d_M_foldOf_70 : decode md_M_foldOf.2.1 70 = .ok (.iconst 0, 1) := by decide +kernel
theorem d_M_foldOf_71 : decode md_M_foldOf.2.1 71 = .ok (.iload 7, 2) := by decide +kernel
theorem d_M_foldOf_73 : decode md_M_foldOf.2.1 73 = .ok (.ifCond .ne 7, 3) := by decide +kernel
theorem d_M_foldOf_76 : decode md_M_foldOf.2.1 76 = .ok (.lconst 0, 1) := by decide +kernel
theorem d_M_foldOf_77 : decode md_M_foldOf.2.1 77 = .ok (.goto 12, 3) := by decide +kernel
theorem d_M_foldOf_80 : decode md_M_foldOf.2.1 80 = .ok (.aload_n 0, 1) := by decide +kernel
theorem d_M_foldOf_81 : decode md_M_foldOf.2.1 81 = .ok (.getfield 35, 3) := by decide +kernel
theorem d_M_foldOf_84 : decode md_M_foldOf.2.1 84 = .ok (.iload 8, 2) := by decide +kernel
theorem d_M_foldOf_86 : decode md_M_foldOf.2.1 86 = .ok (.iconst 1, 1) := by decide +kernel
theorem d_M_foldOf_87 : decode md_M_foldOf.2.1 87 = .ok (.isub, 1) := by decide +kernel
theorem d_M_foldOf_88 : decode md_M_foldOf.2.1 88 = .ok (.laload, 1) := by decide +kernel
theorem d_M_foldOf_89 : decode md_M_foldOf.2.1 89 = .ok (.invokevirtual 97, 3) := by decide +kernel
theorem d_M_foldOf_92 : decode md_M_foldOf.2.1 92 = .ok (.lstore 5, 2) := by decide +kernel
theorem d_M_foldOf_94 : decode md_M_foldOf.2.1 94 = .ok (.iinc 7 1, 3) := by decide +kernel
theorem d_M_foldOf_97 : decode md_M_foldOf.2.1 97 = .ok (.goto (-86), 3) := by decide +kernel
theorem d_M_foldOf_100 : decode md_M_foldOf.2.1 100 = .ok (.lload 5, 2) := by decide +kernel
theorem d_M_foldOf_102 : decode md_M_foldOf.2.1 102 = .ok (.lreturn, 1) := by decide +kernel
theorem d_M_step_0 : decode md_M_step.2.1 0 = .ok (.aload_n 0, 1) := by decide +kernel
theorem d_M_step_1 : decode md_M_step.2.1 1 = .ok (.getfield 7, 3) := by decide +kernel
theorem d_M_step_4 : decode md_M_step.2.1 4 = .ok (.iload_n 1, 1) := by decide +kernel
theorem d_M_step_5 : decode md_M_step.2.1 5 = .ok (.iaload, 1) := by decide +kernel
theorem d_M_step_6 : decode md_M_step.2.1 6 = .ok (.tableswitch 122 0 7 #[46, 51, 65, 79, 82, 94, 106, 110], 46) := by decide +kernel
theorem d_M_step_52 : decode md_M_step.2.1 52 = .ok (.lload_n 2, 1) := by decide +kernel
theorem d_M_step_53 : decode md_M_step.2.1 53 = .ok (.lload 6, 2) := by decide +kernel
theorem d_M_step_55 : decode md_M_step.2.1 55 = .ok (.ladd, 1) := by decide +kernel
theorem d_M_step_56 : decode md_M_step.2.1 56 = .ok (.lreturn, 1) := by decide +kernel
theorem d_M_step_57 : decode md_M_step.2.1 57 = .ok (.lload_n 2, 1) := by decide +kernel
theorem d_M_step_58 : decode md_M_step.2.1 58 = .ok (.lload 6, 2) := by decide +kernel
theorem d_M_step_60 : decode md_M_step.2.1 60 = .ok (.lcmp, 1) := by decide +kernel
theorem d_M_step_61 : decode md_M_step.2.1 61 = .ok (.ifCond .le 7, 3) := by decide +kernel
theorem d_M_step_64 : decode md_M_step.2.1 64 = .ok (.lload_n 2, 1) := by decide +kernel
theorem d_M_step_65 : decode md_M_step.2.1 65 = .ok (.goto 5, 3) := by decide +kernel
theorem d_M_step_68 : decode md_M_step.2.1 68 = .ok (.lload 6, 2) := by decide +kernel
theorem d_M_step_70 : decode md_M_step.2.1 70 = .ok (.lreturn, 1) := by decide +kernel
theorem d_M_step_71 : decode md_M_step.2.1 71 = .ok (.lload_n 2, 1) := by decide +kernel
theorem d_M_step_72 : decode md_M_step.2.1 72 = .ok (.lload 6, 2) := by decide +kernel
theorem d_M_step_74 : decode md_M_step.2.1 74 = .ok (.lcmp, 1) := by decide +kernel
theorem d_M_step_75 : decode md_M_step.2.1 75 = .ok (.ifCond .ge 7, 3) := by decide +kernel
theorem d_M_step_78 : decode md_M_step.2.1 78 = .ok (.lload_n 2, 1) := by decide +kernel
end
section
theorem d_M_step_79 : decode md_M_step.2.1 79 = .ok (.goto 5, 3) := by decide +kernel
theorem d_M_step_82 : decode md_M_step.2.1 82 = .ok (.lload 6, 2) := by decide +kernel
theorem d_M_step_84 : decode md_M_step.2.1 84 = .ok (.lreturn, 1) := by decide +kernel
theorem d_M_step_85 : decode md_M_step.2.1 85 = .ok (.lload 6, 2) := by decide +kernel
theorem d_M_step_87 : decode md_M_step.2.1 87 = .ok (.lreturn, 1) := by decide +kernel
theorem d_M_step_88 : decode md_M_step.2.1 88 = .ok (.iload 8, 2) := by decide +kernel
theorem d_M_step_90 : decode md_M_step.2.1 90 = .ok (.ifCond .eq 8, 3) := by decide +kernel
theorem d_M_step_93 : decode md_M_step.2.1 93 = .ok (.lload 6, 2) := by decide +kernel
theorem d_M_step_95 : decode md_M_step.2.1 95 = .ok (.goto 4, 3) := by decide +kernel
theorem d_M_step_98 : decode md_M_step.2.1 98 = .ok (.lload_n 2, 1) := by decide +kernel
theorem d_M_step_99 : decode md_M_step.2.1 99 = .ok (.lreturn, 1) := by decide +kernel
theorem d_M_step_100 : decode md_M_step.2.1 100 = .ok (.lload_n 2, 1) := by decide +kernel
theorem d_M_step_101 : decode md_M_step.2.1 101 = .ok (.aload_n 0, 1) := by decide +kernel
theorem d_M_step_102 : decode md_M_step.2.1 102 = .ok (.getfield 17, 3) := by decide +kernel
theorem d_M_step_105 : decode md_M_step.2.1 105 = .ok (.iload_n 1, 1) := by decide +kernel
theorem d_M_step_106 : decode md_M_step.2.1 106 = .ok (.laload, 1) := by decide +kernel
theorem d_M_step_107 : decode md_M_step.2.1 107 = .ok (.lmul, 1) := by decide +kernel
theorem d_M_step_108 : decode md_M_step.2.1 108 = .ok (.lload 6, 2) := by decide +kernel
theorem d_M_step_110 : decode md_M_step.2.1 110 = .ok (.ladd, 1) := by decide +kernel
theorem d_M_step_111 : decode md_M_step.2.1 111 = .ok (.lreturn, 1) := by decide +kernel
theorem d_M_step_112 : decode md_M_step.2.1 112 = .ok (.lload_n 2, 1) := by decide +kernel
theorem d_M_step_113 : decode md_M_step.2.1 113 = .ok (.lconst 1, 1) := by decide +kernel
theorem d_M_step_114 : decode md_M_step.2.1 114 = .ok (.ladd, 1) := by decide +kernel
theorem d_M_step_115 : decode md_M_step.2.1 115 = .ok (.lreturn, 1) := by decide +kernel
theorem d_M_step_116 : decode md_M_step.2.1 116 = .ok (.lload_n 2, 1) := by decide +kernel
theorem d_M_step_117 : decode md_M_step.2.1 117 = .ok (.lload 6, 2) := by decide +kernel
theorem d_M_step_119 : decode md_M_step.2.1 119 = .ok (.aload_n 0, 1) := by decide +kernel
theorem d_M_step_120 : decode md_M_step.2.1 120 = .ok (.getfield 17, 3) := by decide +kernel
theorem d_M_step_123 : decode md_M_step.2.1 123 = .ok (.iload_n 1, 1) := by decide +kernel
theorem d_M_step_124 : decode md_M_step.2.1 124 = .ok (.laload, 1) := by decide +kernel
theorem d_M_step_125 : decode md_M_step.2.1 125 = .ok (.lmul, 1) := by decide +kernel
theorem d_M_step_126 : decode md_M_step.2.1 126 = .ok (.lxor, 1) := by decide +kernel
theorem d_M_step_127 : decode md_M_step.2.1 127 = .ok (.lreturn, 1) := by decide +kernel
theorem d_M_step_128 : decode md_M_step.2.1 128 = .ok (.iload 8, 2) := by decide +kernel
theorem d_M_step_130 : decode md_M_step.2.1 130 = .ok (.ifCond .eq 7, 3) := by decide +kernel
theorem d_M_step_133 : decode md_M_step.2.1 133 = .ok (.lconst 0, 1) := by decide +kernel
theorem d_M_step_134 : decode md_M_step.2.1 134 = .ok (.goto 8, 3) := by decide +kernel
theorem d_M_step_137 : decode md_M_step.2.1 137 = .ok (.lload 4, 2) := by decide +kernel
theorem d_M_step_139 : decode md_M_step.2.1 139 = .ok (.lload 9, 2) := by decide +kernel
theorem d_M_step_141 : decode md_M_step.2.1 141 = .ok (.lsub, 1) := by decide +kernel
theorem d_M_step_142 : decode md_M_step.2.1 142 = .ok (.lstore 11, 2) := by decide +kernel
theorem d_M_step_144 : decode md_M_step.2.1 144 = .ok (.lload_n 2, 1) := by decide +kernel
theorem d_M_step_145 : decode md_M_step.2.1 145 = .ok (.lload 11, 2) := by decide +kernel
theorem d_M_step_147 : decode md_M_step.2.1 147 = .ok (.lcmp, 1) := by decide +kernel
theorem d_M_step_148 : decode md_M_step.2.1 148 = .ok (.ifCond .le 7, 3) := by decide +kernel
theorem d_M_step_151 : decode md_M_step.2.1 151 = .ok (.lload_n 2, 1) := by decide +kernel
theorem d_M_step_152 : decode md_M_step.2.1 152 = .ok (.goto 5, 3) := by decide +kernel
theorem d_M_step_155 : decode md_M_step.2.1 155 = .ok (.lload 11, 2) := by decide +kernel
theorem d_M_step_157 : decode md_M_step.2.1 157 = .ok (.lreturn, 1) := by decide +kernel
theorem d_M_resume_0 : decode md_M_resume.2.1 0 = .ok (.aload_n 0, 1) := by decide +kernel
theorem d_M_resume_1 : decode md_M_resume.2.1 1 = .ok (.lload_n 1, 1) := by decide +kernel
theorem d_M_resume_2 : decode md_M_resume.2.1 2 = .ok (.invokevirtual 106, 3) := by decide +kernel
theorem d_M_resume_5 : decode md_M_resume.2.1 5 = .ok (.istore_n 3, 1) := by decide +kernel
theorem d_M_resume_6 : decode md_M_resume.2.1 6 = .ok (.aload_n 0, 1) := by decide +kernel
theorem d_M_resume_7 : decode md_M_resume.2.1 7 = .ok (.iload_n 3, 1) := by decide +kernel
theorem d_M_resume_8 : decode md_M_resume.2.1 8 = .ok (.iconst (-1), 1) := by decide +kernel
theorem d_M_resume_9 : decode md_M_resume.2.1 9 = .ok (.if_icmp .ne 7, 3) := by decide +kernel
theorem d_M_resume_12 : decode md_M_resume.2.1 12 = .ok (.iconst 1, 1) := by decide +kernel
theorem d_M_resume_13 : decode md_M_resume.2.1 13 = .ok (.goto 4, 3) := by decide +kernel
theorem d_M_resume_16 : decode md_M_resume.2.1 16 = .ok (.iconst 0, 1) := by decide +kernel
theorem d_M_resume_17 : decode md_M_resume.2.1 17 = .ok (.putfield 67, 3) := by decide +kernel
theorem d_M_resume_20 : decode md_M_resume.2.1 20 = .ok (.aload_n 0, 1) := by decide +kernel
theorem d_M_resume_21 : decode md_M_resume.2.1 21 = .ok (.getfield 67, 3) := by decide +kernel
theorem d_M_resume_24 : decode md_M_resume.2.1 24 = .ok (.ifCond .le 4, 3) := by decide +kernel
theorem d_M_resume_27 : decode md_M_resume.2.1 27 = .ok (.return_, 1) := by decide +kernel
theorem d_M_resume_28 : decode md_M_resume.2.1 28 = .ok (.aload_n 0, 1) := by decide +kernel
theorem d_M_resume_29 : decode md_M_resume.2.1 29 = .ok (.dup, 1) := by decide +kernel
theorem d_M_resume_30 : decode md_M_resume.2.1 30 = .ok (.getfield 77, 3) := by decide +kernel
theorem d_M_resume_33 : decode md_M_resume.2.1 33 = .ok (.iconst 1, 1) := by decide +kernel
theorem d_M_resume_34 : decode md_M_resume.2.1 34 = .ok (.isub, 1) := by decide +kernel
theorem d_M_resume_35 : decode md_M_resume.2.1 35 = .ok (.putfield 77, 3) := by decide +kernel
theorem d_M_resume_38 : decode md_M_resume.2.1 38 = .ok (.aload_n 0, 1) := by decide +kernel
theorem d_M_resume_39 : decode md_M_resume.2.1 39 = .ok (.getfield 41, 3) := by decide +kernel
theorem d_M_resume_42 : decode md_M_resume.2.1 42 = .ok (.iload_n 3, 1) := by decide +kernel
theorem d_M_resume_43 : decode md_M_resume.2.1 43 = .ok (.aload_n 0, 1) := by decide +kernel
theorem d_M_resume_44 : decode md_M_resume.2.1 44 = .ok (.getfield 41, 3) := by decide +kernel
theorem d_M_resume_47 : decode md_M_resume.2.1 47 = .ok (.aload_n 0, 1) := by decide +kernel
theorem d_M_resume_48 : decode md_M_resume.2.1 48 = .ok (.getfield 77, 3) := by decide +kernel
theorem d_M_resume_51 : decode md_M_resume.2.1 51 = .ok (.laload, 1) := by decide +kernel
theorem d_M_resume_52 : decode md_M_resume.2.1 52 = .ok (.lastore, 1) := by decide +kernel
theorem d_M_resume_53 : decode md_M_resume.2.1 53 = .ok (.return_, 1) := by decide +kernel
theorem d_M_state_0 : decode md_M_state.2.1 0 = .ok (.aload_n 0, 1) := by decide +kernel
theorem d_M_state_1 : decode md_M_state.2.1 1 = .ok (.lload_n 1, 1) := by decide +kernel
theorem d_M_state_2 : decode md_M_state.2.1 2 = .ok (.invokevirtual 125, 3) := by decide +kernel
theorem d_M_state_5 : decode md_M_state.2.1 5 = .ok (.istore 4, 2) := by decide +kernel
theorem d_M_state_7 : decode md_M_state.2.1 7 = .ok (.aload_n 0, 1) := by decide +kernel
theorem d_M_state_8 : decode md_M_state.2.1 8 = .ok (.aload_n 0, 1) := by decide +kernel
theorem d_M_state_9 : decode md_M_state.2.1 9 = .ok (.iload_n 3, 1) := by decide +kernel
theorem d_M_state_10 : decode md_M_state.2.1 10 = .ok (.invokevirtual 83, 3) := by decide +kernel
theorem d_M_state_13 : decode md_M_state.2.1 13 = .ok (.ifCond .eq 9, 3) := by decide +kernel
theorem d_M_state_16 : decode md_M_state.2.1 16 = .ok (.iload 4, 2) := by decide +kernel
theorem d_M_state_18 : decode md_M_state.2.1 18 = .ok (.iconst (-1), 1) := by decide +kernel
theorem d_M_state_19 : decode md_M_state.2.1 19 = .ok (.if_icmp .ne 7, 3) := by decide +kernel
theorem d_M_state_22 : decode md_M_state.2.1 22 = .ok (.iconst 1, 1) := by decide +kernel
theorem d_M_state_23 : decode md_M_state.2.1 23 = .ok (.goto 4, 3) := by decide +kernel
theorem d_M_state_26 : decode md_M_state.2.1 26 = .ok (.iconst 0, 1) := by decide +kernel
theorem d_M_state_27 : decode md_M_state.2.1 27 = .ok (.putfield 67, 3) := by decide +kernel
theorem d_M_state_30 : decode md_M_state.2.1 30 = .ok (.aload_n 0, 1) := by decide +kernel
theorem d_M_state_31 : decode md_M_state.2.1 31 = .ok (.getfield 67, 3) := by decide +kernel
theorem d_M_state_34 : decode md_M_state.2.1 34 = .ok (.ifCond .le 7, 3) := by decide +kernel
theorem d_M_state_37 : decode md_M_state.2.1 37 = .ok (.lconst 0, 1) := by decide +kernel
theorem d_M_state_38 : decode md_M_state.2.1 38 = .ok (.goto 13, 3) := by decide +kernel
theorem d_M_state_41 : decode md_M_state.2.1 41 = .ok (.aload_n 0, 1) := by decide +kernel
theorem d_M_state_42 : decode md_M_state.2.1 42 = .ok (.iload 4, 2) := by decide +kernel
theorem d_M_state_44 : decode md_M_state.2.1 44 = .ok (.iload_n 3, 1) := by decide +kernel
theorem d_M_state_45 : decode md_M_state.2.1 45 = .ok (.ldc2_w 177, 3) := by decide +kernel
theorem d_M_state_48 : decode md_M_state.2.1 48 = .ok (.invokevirtual 173, 3) := by decide +kernel
theorem d_M_state_51 : decode md_M_state.2.1 51 = .ok (.lreturn, 1) := by decide +kernel
theorem d_M_key_0 : decode md_M_key.2.1 0 = .ok (.aload_n 0, 1) := by decide +kernel
theorem d_M_key_1 : decode md_M_key.2.1 1 = .ok (.iload_n 3, 1) := by decide +kernel
theorem d_M_key_2 : decode md_M_key.2.1 2 = .ok (.ifCond .lt 8, 3) := by decide +kernel
theorem d_M_key_5 : decode md_M_key.2.1 5 = .ok (.iload_n 3, 1) := by decide +kernel
theorem d_M_key_6 : decode md_M_key.2.1 6 = .ok (.iconst 2, 1) := by decide +kernel
theorem d_M_key_7 : decode md_M_key.2.1 7 = .ok (.if_icmp .le 7, 3) := by decide +kernel
theorem d_M_key_10 : decode md_M_key.2.1 10 = .ok (.iconst 1, 1) := by decide +kernel
theorem d_M_key_11 : decode md_M_key.2.1 11 = .ok (.goto 4, 3) := by decide +kernel
theorem d_M_key_14 : decode md_M_key.2.1 14 = .ok (.iconst 0, 1) := by decide +kernel
theorem d_M_key_15 : decode md_M_key.2.1 15 = .ok (.putfield 67, 3) := by decide +kernel
theorem d_M_key_18 : decode md_M_key.2.1 18 = .ok (.aload_n 0, 1) := by decide +kernel
theorem d_M_key_19 : decode md_M_key.2.1 19 = .ok (.getfield 67, 3) := by decide +kernel
theorem d_M_key_22 : decode md_M_key.2.1 22 = .ok (.ifCond .le 5, 3) := by decide +kernel
theorem d_M_key_25 : decode md_M_key.2.1 25 = .ok (.iconst 0, 1) := by decide +kernel
theorem d_M_key_26 : decode md_M_key.2.1 26 = .ok (.ireturn, 1) := by decide +kernel
theorem d_M_key_27 : decode md_M_key.2.1 27 = .ok (.aload_n 0, 1) := by decide +kernel
theorem d_M_key_28 : decode md_M_key.2.1 28 = .ok (.lload_n 1, 1) := by decide +kernel
theorem d_M_key_29 : decode md_M_key.2.1 29 = .ok (.invokevirtual 125, 3) := by decide +kernel
theorem d_M_key_32 : decode md_M_key.2.1 32 = .ok (.istore 4, 2) := by decide +kernel
theorem d_M_key_34 : decode md_M_key.2.1 34 = .ok (.iload_n 3, 1) := by decide +kernel
theorem d_M_key_35 : decode md_M_key.2.1 35 = .ok (.iconst 2, 1) := by decide +kernel
theorem d_M_key_36 : decode md_M_key.2.1 36 = .ok (.if_icmp .ne 18, 3) := by decide +kernel
theorem d_M_key_39 : decode md_M_key.2.1 39 = .ok (.aload_n 0, 1) := by decide +kernel
theorem d_M_key_40 : decode md_M_key.2.1 40 = .ok (.lload_n 1, 1) := by decide +kernel
theorem d_M_key_41 : decode md_M_key.2.1 41 = .ok (.invokevirtual 106, 3) := by decide +kernel
theorem d_M_key_44 : decode md_M_key.2.1 44 = .ok (.iconst (-1), 1) := by decide +kernel
theorem d_M_key_45 : decode md_M_key.2.1 45 = .ok (.if_icmp .eq 7, 3) := by decide +kernel
theorem d_M_key_48 : decode md_M_key.2.1 48 = .ok (.iconst 1, 1) := by decide +kernel
theorem d_M_key_49 : decode md_M_key.2.1 49 = .ok (.goto 4, 3) := by decide +kernel
theorem d_M_key_52 : decode md_M_key.2.1 52 = .ok (.iconst 0, 1) := by decide +kernel
theorem d_M_key_53 : decode md_M_key.2.1 53 = .ok (.ireturn, 1) := by decide +kernel
theorem d_M_key_54 : decode md_M_key.2.1 54 = .ok (.iload 4, 2) := by decide +kernel
theorem d_M_key_56 : decode md_M_key.2.1 56 = .ok (.iconst (-1), 1) := by decide +kernel
theorem d_M_key_57 : decode md_M_key.2.1 57 = .ok (.if_icmp .ne 7, 3) := by decide +kernel
theorem d_M_key_60 : decode md_M_key.2.1 60 = .ok (.iconst 0, 1) := by decide +kernel
theorem d_M_key_61 : decode md_M_key.2.1 61 = .ok (.goto 24, 3) := by decide +kernel
theorem d_M_key_64 : decode md_M_key.2.1 64 = .ok (.iload_n 3, 1) := by decide +kernel
theorem d_M_key_65 : decode md_M_key.2.1 65 = .ok (.ifCond .ne 13, 3) := by decide +kernel
theorem d_M_key_68 : decode md_M_key.2.1 68 = .ok (.aload_n 0, 1) := by decide +kernel
theorem d_M_key_69 : decode md_M_key.2.1 69 = .ok (.getfield 29, 3) := by decide +kernel
theorem d_M_key_72 : decode md_M_key.2.1 72 = .ok (.iload 4, 2) := by decide +kernel
theorem d_M_key_74 : decode md_M_key.2.1 74 = .ok (.iaload, 1) := by decide +kernel
theorem d_M_key_75 : decode md_M_key.2.1 75 = .ok (.goto 10, 3) := by decide +kernel
theorem d_M_key_78 : decode md_M_key.2.1 78 = .ok (.aload_n 0, 1) := by decide +kernel
theorem d_M_key_79 : decode md_M_key.2.1 79 = .ok (.getfield 32, 3) := by decide +kernel
theorem d_M_key_82 : decode md_M_key.2.1 82 = .ok (.iload 4, 2) := by decide +kernel
theorem d_M_key_84 : decode md_M_key.2.1 84 = .ok (.iaload, 1) := by decide +kernel
theorem d_M_key_85 : decode md_M_key.2.1 85 = .ok (.ireturn, 1) := by decide +kernel
theorem d_M_rowOf_0 : decode md_M_rowOf.2.1 0 = .ok (.aload_n 0, 1) := by decide +kernel
theorem d_M_rowOf_1 : decode md_M_rowOf.2.1 1 = .ok (.lload_n 1, 1) := by decide +kernel
theorem d_M_rowOf_2 : decode md_M_rowOf.2.1 2 = .ok (.invokevirtual 125, 3) := by decide +kernel
theorem d_M_rowOf_5 : decode md_M_rowOf.2.1 5 = .ok (.istore 5, 2) := by decide +kernel
theorem d_M_rowOf_7 : decode md_M_rowOf.2.1 7 = .ok (.aload_n 0, 1) := by decide +kernel
theorem d_M_rowOf_8 : decode md_M_rowOf.2.1 8 = .ok (.iload 5, 2) := by decide +kernel
theorem d_M_rowOf_10 : decode md_M_rowOf.2.1 10 = .ok (.iconst (-1), 1) := by decide +kernel
theorem d_M_rowOf_11 : decode md_M_rowOf.2.1 11 = .ok (.if_icmp .eq 29, 3) := by decide +kernel
theorem d_M_rowOf_14 : decode md_M_rowOf.2.1 14 = .ok (.iload_n 3, 1) := by decide +kernel
theorem d_M_rowOf_15 : decode md_M_rowOf.2.1 15 = .ok (.ifCond .lt 25, 3) := by decide +kernel
theorem d_M_rowOf_18 : decode md_M_rowOf.2.1 18 = .ok (.iload_n 3, 1) := by decide +kernel
theorem d_M_rowOf_19 : decode md_M_rowOf.2.1 19 = .ok (.aload_n 0, 1) := by decide +kernel
theorem d_M_rowOf_20 : decode md_M_rowOf.2.1 20 = .ok (.getfield 29, 3) := by decide +kernel
theorem d_M_rowOf_23 : decode md_M_rowOf.2.1 23 = .ok (.iload 5, 2) := by decide +kernel
theorem d_M_rowOf_25 : decode md_M_rowOf.2.1 25 = .ok (.iaload, 1) := by decide +kernel
theorem d_M_rowOf_26 : decode md_M_rowOf.2.1 26 = .ok (.if_icmp .ge 14, 3) := by decide +kernel
theorem d_M_rowOf_29 : decode md_M_rowOf.2.1 29 = .ok (.iload 4, 2) := by decide +kernel
theorem d_M_rowOf_31 : decode md_M_rowOf.2.1 31 = .ok (.ifCond .lt 9, 3) := by decide +kernel
theorem d_M_rowOf_34 : decode md_M_rowOf.2.1 34 = .ok (.iload 4, 2) := by decide +kernel
theorem d_M_rowOf_36 : decode md_M_rowOf.2.1 36 = .ok (.iconst 1, 1) := by decide +kernel
theorem d_M_rowOf_37 : decode md_M_rowOf.2.1 37 = .ok (.if_icmp .le 7, 3) := by decide +kernel
theorem d_M_rowOf_40 : decode md_M_rowOf.2.1 40 = .ok (.iconst 1, 1) := by decide +kernel
theorem d_M_rowOf_41 : decode md_M_rowOf.2.1 41 = .ok (.goto 4, 3) := by decide +kernel
theorem d_M_rowOf_44 : decode md_M_rowOf.2.1 44 = .ok (.iconst 0, 1) := by decide +kernel
theorem d_M_rowOf_45 : decode md_M_rowOf.2.1 45 = .ok (.putfield 67, 3) := by decide +kernel
theorem d_M_rowOf_48 : decode md_M_rowOf.2.1 48 = .ok (.aload_n 0, 1) := by decide +kernel
theorem d_M_rowOf_49 : decode md_M_rowOf.2.1 49 = .ok (.getfield 67, 3) := by decide +kernel
theorem d_M_rowOf_52 : decode md_M_rowOf.2.1 52 = .ok (.ifCond .le 7, 3) := by decide +kernel
theorem d_M_rowOf_55 : decode md_M_rowOf.2.1 55 = .ok (.lconst 0, 1) := by decide +kernel
theorem d_M_rowOf_56 : decode md_M_rowOf.2.1 56 = .ok (.goto 35, 3) := by decide +kernel
theorem d_M_rowOf_59 : decode md_M_rowOf.2.1 59 = .ok (.iload 4, 2) := by decide +kernel
theorem d_M_rowOf_61 : decode md_M_rowOf.2.1 61 = .ok (.ifCond .ne 18, 3) := by decide +kernel
theorem d_M_rowOf_64 : decode md_M_rowOf.2.1 64 = .ok (.aload_n 0, 1) := by decide +kernel
theorem d_M_rowOf_65 : decode md_M_rowOf.2.1 65 = .ok (.getfield 35, 3) := by decide +kernel
theorem d_M_rowOf_68 : decode md_M_rowOf.2.1 68 = .ok (.bipush 62, 2) := by decide +kernel
theorem d_M_rowOf_70 : decode md_M_rowOf.2.1 70 = .ok (.iload 5, 2) := by decide +kernel
theorem d_M_rowOf_72 : decode md_M_rowOf.2.1 72 = .ok (.imul, 1) := by decide +kernel
theorem d_M_rowOf_73 : decode md_M_rowOf.2.1 73 = .ok (.iload_n 3, 1) := by decide +kernel
theorem d_M_rowOf_74 : decode md_M_rowOf.2.1 74 = .ok (.iadd, 1) := by decide +kernel
theorem d_M_rowOf_75 : decode md_M_rowOf.2.1 75 = .ok (.laload, 1) := by decide +kernel
theorem d_M_rowOf_76 : decode md_M_rowOf.2.1 76 = .ok (.goto 15, 3) := by decide +kernel
theorem d_M_rowOf_79 : decode md_M_rowOf.2.1 79 = .ok (.aload_n 0, 1) := by decide +kernel
theorem d_M_rowOf_80 : decode md_M_rowOf.2.1 80 = .ok (.getfield 38, 3) := by decide +kernel
theorem d_M_rowOf_83 : decode md_M_rowOf.2.1 83 = .ok (.bipush 62, 2) := by decide +kernel
theorem d_M_rowOf_85 : decode md_M_rowOf.2.1 85 = .ok (.iload 5, 2) := by decide +kernel
theorem d_M_rowOf_87 : decode md_M_rowOf.2.1 87 = .ok (.imul, 1) := by decide +kernel
theorem d_M_rowOf_88 : decode md_M_rowOf.2.1 88 = .ok (.iload_n 3, 1) := by decide +kernel
theorem d_M_rowOf_89 : decode md_M_rowOf.2.1 89 = .ok (.iadd, 1) := by decide +kernel
theorem d_M_rowOf_90 : decode md_M_rowOf.2.1 90 = .ok (.laload, 1) := by decide +kernel
theorem d_M_rowOf_91 : decode md_M_rowOf.2.1 91 = .ok (.lreturn, 1) := by decide +kernel
theorem d_M_aside_0 : decode md_M_aside.2.1 0 = .ok (.aload_n 0, 1) := by decide +kernel
theorem d_M_aside_1 : decode md_M_aside.2.1 1 = .ok (.iload_n 1, 1) := by decide +kernel
theorem d_M_aside_2 : decode md_M_aside.2.1 2 = .ok (.ifCond .lt 26, 3) := by decide +kernel
theorem d_M_aside_5 : decode md_M_aside.2.1 5 = .ok (.iload_n 1, 1) := by decide +kernel
theorem d_M_aside_6 : decode md_M_aside.2.1 6 = .ok (.aload_n 0, 1) := by decide +kernel
theorem d_M_aside_7 : decode md_M_aside.2.1 7 = .ok (.getfield 101, 3) := by decide +kernel
theorem d_M_aside_10 : decode md_M_aside.2.1 10 = .ok (.if_icmp .ge 18, 3) := by decide +kernel
theorem d_M_aside_13 : decode md_M_aside.2.1 13 = .ok (.iload_n 1, 1) := by decide +kernel
theorem d_M_aside_14 : decode md_M_aside.2.1 14 = .ok (.bipush 100, 2) := by decide +kernel
theorem d_M_aside_16 : decode md_M_aside.2.1 16 = .ok (.if_icmp .ge 12, 3) := by decide +kernel
theorem d_M_aside_19 : decode md_M_aside.2.1 19 = .ok (.iload_n 2, 1) := by decide +kernel
theorem d_M_aside_20 : decode md_M_aside.2.1 20 = .ok (.ifCond .lt 8, 3) := by decide +kernel
theorem d_M_aside_23 : decode md_M_aside.2.1 23 = .ok (.iload_n 2, 1) := by decide +kernel
theorem d_M_aside_24 : decode md_M_aside.2.1 24 = .ok (.iconst 3, 1) := by decide +kernel
theorem d_M_aside_25 : decode md_M_aside.2.1 25 = .ok (.if_icmp .le 7, 3) := by decide +kernel
theorem d_M_aside_28 : decode md_M_aside.2.1 28 = .ok (.iconst 1, 1) := by decide +kernel
theorem d_M_aside_29 : decode md_M_aside.2.1 29 = .ok (.goto 4, 3) := by decide +kernel
theorem d_M_aside_32 : decode md_M_aside.2.1 32 = .ok (.iconst 0, 1) := by decide +kernel
theorem d_M_aside_33 : decode md_M_aside.2.1 33 = .ok (.putfield 67, 3) := by decide +kernel
theorem d_M_aside_36 : decode md_M_aside.2.1 36 = .ok (.aload_n 0, 1) := by decide +kernel
theorem d_M_aside_37 : decode md_M_aside.2.1 37 = .ok (.getfield 67, 3) := by decide +kernel
theorem d_M_aside_40 : decode md_M_aside.2.1 40 = .ok (.ifCond .le 7, 3) := by decide +kernel
theorem d_M_aside_43 : decode md_M_aside.2.1 43 = .ok (.lconst 0, 1) := by decide +kernel
theorem d_M_aside_44 : decode md_M_aside.2.1 44 = .ok (.goto 13, 3) := by decide +kernel
theorem d_M_aside_47 : decode md_M_aside.2.1 47 = .ok (.aload_n 0, 1) := by decide +kernel
theorem d_M_aside_48 : decode md_M_aside.2.1 48 = .ok (.getfield 44, 3) := by decide +kernel
theorem d_M_aside_51 : decode md_M_aside.2.1 51 = .ok (.iconst 4, 1) := by decide +kernel
theorem d_M_aside_52 : decode md_M_aside.2.1 52 = .ok (.iload_n 1, 1) := by decide +kernel
theorem d_M_aside_53 : decode md_M_aside.2.1 53 = .ok (.imul, 1) := by decide +kernel
theorem d_M_aside_54 : decode md_M_aside.2.1 54 = .ok (.iload_n 2, 1) := by decide +kernel
theorem d_M_aside_55 : decode md_M_aside.2.1 55 = .ok (.iadd, 1) := by decide +kernel
theorem d_M_aside_56 : decode md_M_aside.2.1 56 = .ok (.laload, 1) := by decide +kernel
theorem d_M_aside_57 : decode md_M_aside.2.1 57 = .ok (.lreturn, 1) := by decide +kernel
theorem d_M_output_0 : decode md_M_output.2.1 0 = .ok (.aload_n 0, 1) := by decide +kernel
theorem d_M_output_1 : decode md_M_output.2.1 1 = .ok (.iload_n 1, 1) := by decide +kernel
theorem d_M_output_2 : decode md_M_output.2.1 2 = .ok (.ifCond .lt 32, 3) := by decide +kernel
theorem d_M_output_5 : decode md_M_output.2.1 5 = .ok (.iload_n 1, 1) := by decide +kernel
theorem d_M_output_6 : decode md_M_output.2.1 6 = .ok (.aload_n 0, 1) := by decide +kernel
theorem d_M_output_7 : decode md_M_output.2.1 7 = .ok (.getfield 170, 3) := by decide +kernel
theorem d_M_output_10 : decode md_M_output.2.1 10 = .ok (.if_icmp .ge 24, 3) := by decide +kernel
theorem d_M_output_13 : decode md_M_output.2.1 13 = .ok (.iload_n 1, 1) := by decide +kernel
theorem d_M_output_14 : decode md_M_output.2.1 14 = .ok (.sipush 300, 3) := by decide +kernel
theorem d_M_output_17 : decode md_M_output.2.1 17 = .ok (.if_icmp .ge 17, 3) := by decide +kernel
theorem d_M_output_20 : decode md_M_output.2.1 20 = .ok (.iload_n 2, 1) := by decide +kernel
theorem d_M_output_21 : decode md_M_output.2.1 21 = .ok (.ifCond .lt 13, 3) := by decide +kernel
theorem d_M_output_24 : decode md_M_output.2.1 24 = .ok (.iload_n 2, 1) := by decide +kernel
theorem d_M_output_25 : decode md_M_output.2.1 25 = .ok (.iconst 1, 1) := by decide +kernel
theorem d_M_output_26 : decode md_M_output.2.1 26 = .ok (.aload_n 0, 1) := by decide +kernel
theorem d_M_output_27 : decode md_M_output.2.1 27 = .ok (.getfield 71, 3) := by decide +kernel
theorem d_M_output_30 : decode md_M_output.2.1 30 = .ok (.iadd, 1) := by decide +kernel
theorem d_M_output_31 : decode md_M_output.2.1 31 = .ok (.if_icmp .le 7, 3) := by decide +kernel
theorem d_M_output_34 : decode md_M_output.2.1 34 = .ok (.iconst 1, 1) := by decide +kernel
theorem d_M_output_35 : decode md_M_output.2.1 35 = .ok (.goto 4, 3) := by decide +kernel
theorem d_M_output_38 : decode md_M_output.2.1 38 = .ok (.iconst 0, 1) := by decide +kernel
theorem d_M_output_39 : decode md_M_output.2.1 39 = .ok (.putfield 67, 3) := by decide +kernel
theorem d_M_output_42 : decode md_M_output.2.1 42 = .ok (.aload_n 0, 1) := by decide +kernel
theorem d_M_output_43 : decode md_M_output.2.1 43 = .ok (.getfield 67, 3) := by decide +kernel
theorem d_M_output_46 : decode md_M_output.2.1 46 = .ok (.ifCond .le 7, 3) := by decide +kernel
theorem d_M_output_49 : decode md_M_output.2.1 49 = .ok (.lconst 0, 1) := by decide +kernel
theorem d_M_output_50 : decode md_M_output.2.1 50 = .ok (.goto 14, 3) := by decide +kernel
theorem d_M_output_53 : decode md_M_output.2.1 53 = .ok (.aload_n 0, 1) := by decide +kernel
theorem d_M_output_54 : decode md_M_output.2.1 54 = .ok (.getfield 47, 3) := by decide +kernel
theorem d_M_output_57 : decode md_M_output.2.1 57 = .ok (.bipush 8, 2) := by decide +kernel
theorem d_M_output_59 : decode md_M_output.2.1 59 = .ok (.iload_n 1, 1) := by decide +kernel
theorem d_M_output_60 : decode md_M_output.2.1 60 = .ok (.imul, 1) := by decide +kernel
theorem d_M_output_61 : decode md_M_output.2.1 61 = .ok (.iload_n 2, 1) := by decide +kernel
theorem d_M_output_62 : decode md_M_output.2.1 62 = .ok (.iadd, 1) := by decide +kernel
theorem d_M_output_63 : decode md_M_output.2.1 63 = .ok (.laload, 1) := by decide +kernel
theorem d_M_output_64 : decode md_M_output.2.1 64 = .ok (.lreturn, 1) := by decide +kernel
theorem d_M_watermark_0 : decode md_M_watermark.2.1 0 = .ok (.aload_n 0, 1) := by decide +kernel
theorem d_M_watermark_1 : decode md_M_watermark.2.1 1 = .ok (.aload_n 0, 1) := by decide +kernel
theorem d_M_watermark_2 : decode md_M_watermark.2.1 2 = .ok (.getfield 110, 3) := by decide +kernel
theorem d_M_watermark_5 : decode md_M_watermark.2.1 5 = .ok (.ifCond .eq 7, 3) := by decide +kernel
theorem d_M_watermark_8 : decode md_M_watermark.2.1 8 = .ok (.iconst 0, 1) := by decide +kernel
theorem d_M_watermark_9 : decode md_M_watermark.2.1 9 = .ok (.goto 4, 3) := by decide +kernel
theorem d_M_watermark_12 : decode md_M_watermark.2.1 12 = .ok (.iconst 1, 1) := by decide +kernel
theorem d_M_watermark_13 : decode md_M_watermark.2.1 13 = .ok (.putfield 67, 3) := by decide +kernel
theorem d_M_watermark_16 : decode md_M_watermark.2.1 16 = .ok (.aload_n 0, 1) := by decide +kernel
theorem d_M_watermark_17 : decode md_M_watermark.2.1 17 = .ok (.getfield 67, 3) := by decide +kernel
theorem d_M_watermark_20 : decode md_M_watermark.2.1 20 = .ok (.ifCond .le 7, 3) := by decide +kernel
theorem d_M_watermark_23 : decode md_M_watermark.2.1 23 = .ok (.lconst 0, 1) := by decide +kernel
theorem d_M_watermark_24 : decode md_M_watermark.2.1 24 = .ok (.goto 7, 3) := by decide +kernel
theorem d_M_watermark_27 : decode md_M_watermark.2.1 27 = .ok (.aload_n 0, 1) := by decide +kernel
theorem d_M_watermark_28 : decode md_M_watermark.2.1 28 = .ok (.getfield 114, 3) := by decide +kernel
theorem d_M_watermark_31 : decode md_M_watermark.2.1 31 = .ok (.lreturn, 1) := by decide +kernel
theorem d_M_told_0 : decode md_M_told.2.1 0 = .ok (.aload_n 0, 1) := by decide +kernel
theorem d_M_told_1 : decode md_M_told.2.1 1 = .ok (.iload_n 1, 1) := by decide +kernel
theorem d_M_told_2 : decode md_M_told.2.1 2 = .ok (.ifCond .lt 9, 3) := by decide +kernel
theorem d_M_told_5 : decode md_M_told.2.1 5 = .ok (.iload_n 1, 1) := by decide +kernel
theorem d_M_told_6 : decode md_M_told.2.1 6 = .ok (.bipush 8, 2) := by decide +kernel
theorem d_M_told_8 : decode md_M_told.2.1 8 = .ok (.if_icmp .le 7, 3) := by decide +kernel
theorem d_M_told_11 : decode md_M_told.2.1 11 = .ok (.iconst 1, 1) := by decide +kernel
theorem d_M_told_12 : decode md_M_told.2.1 12 = .ok (.goto 4, 3) := by decide +kernel
theorem d_M_told_15 : decode md_M_told.2.1 15 = .ok (.iconst 0, 1) := by decide +kernel
theorem d_M_told_16 : decode md_M_told.2.1 16 = .ok (.putfield 67, 3) := by decide +kernel
theorem d_M_told_19 : decode md_M_told.2.1 19 = .ok (.aload_n 0, 1) := by decide +kernel
theorem d_M_told_20 : decode md_M_told.2.1 20 = .ok (.getfield 67, 3) := by decide +kernel
theorem d_M_told_23 : decode md_M_told.2.1 23 = .ok (.ifCond .le 5, 3) := by decide +kernel
theorem d_M_told_26 : decode md_M_told.2.1 26 = .ok (.iconst 0, 1) := by decide +kernel
theorem d_M_told_27 : decode md_M_told.2.1 27 = .ok (.ireturn, 1) := by decide +kernel
theorem d_M_told_28 : decode md_M_told.2.1 28 = .ok (.iload_n 1, 1) := by decide +kernel
theorem d_M_told_29 : decode md_M_told.2.1 29 = .ok (.tableswitch 87 0 7 #[47, 52, 57, 62, 67, 72, 77, 82], 47) := by decide +kernel
theorem d_M_told_76 : decode md_M_told.2.1 76 = .ok (.aload_n 0, 1) := by decide +kernel
theorem d_M_told_77 : decode md_M_told.2.1 77 = .ok (.getfield 71, 3) := by decide +kernel
theorem d_M_told_80 : decode md_M_told.2.1 80 = .ok (.ireturn, 1) := by decide +kernel
theorem d_M_told_81 : decode md_M_told.2.1 81 = .ok (.aload_n 0, 1) := by decide +kernel
theorem d_M_told_82 : decode md_M_told.2.1 82 = .ok (.getfield 74, 3) := by decide +kernel
theorem d_M_told_85 : decode md_M_told.2.1 85 = .ok (.ireturn, 1) := by decide +kernel
theorem d_M_told_86 : decode md_M_told.2.1 86 = .ok (.aload_n 0, 1) := by decide +kernel
theorem d_M_told_87 : decode md_M_told.2.1 87 = .ok (.getfield 101, 3) := by decide +kernel
theorem d_M_told_90 : decode md_M_told.2.1 90 = .ok (.ireturn, 1) := by decide +kernel
theorem d_M_told_91 : decode md_M_told.2.1 91 = .ok (.aload_n 0, 1) := by decide +kernel
theorem d_M_told_92 : decode md_M_told.2.1 92 = .ok (.getfield 170, 3) := by decide +kernel
theorem d_M_told_95 : decode md_M_told.2.1 95 = .ok (.ireturn, 1) := by decide +kernel
theorem d_M_told_96 : decode md_M_told.2.1 96 = .ok (.aload_n 0, 1) := by decide +kernel
theorem d_M_told_97 : decode md_M_told.2.1 97 = .ok (.getfield 80, 3) := by decide +kernel
theorem d_M_told_100 : decode md_M_told.2.1 100 = .ok (.ireturn, 1) := by decide +kernel
theorem d_M_told_101 : decode md_M_told.2.1 101 = .ok (.aload_n 0, 1) := by decide +kernel
theorem d_M_told_102 : decode md_M_told.2.1 102 = .ok (.getfield 118, 3) := by decide +kernel
theorem d_M_told_105 : decode md_M_told.2.1 105 = .ok (.ireturn, 1) := by decide +kernel
theorem d_M_told_106 : decode md_M_told.2.1 106 = .ok (.aload_n 0, 1) := by decide +kernel
theorem d_M_told_107 : decode md_M_told.2.1 107 = .ok (.getfield 132, 3) := by decide +kernel
theorem d_M_told_110 : decode md_M_told.2.1 110 = .ok (.ireturn, 1) := by decide +kernel
theorem d_M_told_111 : decode md_M_told.2.1 111 = .ok (.aload_n 0, 1) := by decide +kernel
theorem d_M_told_112 : decode md_M_told.2.1 112 = .ok (.getfield 138, 3) := by decide +kernel
theorem d_M_told_115 : decode md_M_told.2.1 115 = .ok (.ireturn, 1) := by decide +kernel
theorem d_M_told_116 : decode md_M_told.2.1 116 = .ok (.aload_n 0, 1) := by decide +kernel
theorem d_M_told_117 : decode md_M_told.2.1 117 = .ok (.getfield 155, 3) := by decide +kernel
theorem d_M_told_120 : decode md_M_told.2.1 120 = .ok (.ireturn, 1) := by decide +kernel
theorem d_M_folded_0 : decode md_M_folded.2.1 0 = .ok (.aload_n 0, 1) := by decide +kernel
theorem d_M_folded_1 : decode md_M_folded.2.1 1 = .ok (.aload_n 0, 1) := by decide +kernel
theorem d_M_folded_2 : decode md_M_folded.2.1 2 = .ok (.lload_n 1, 1) := by decide +kernel
theorem d_M_folded_3 : decode md_M_folded.2.1 3 = .ok (.invokevirtual 125, 3) := by decide +kernel
theorem d_M_folded_6 : decode md_M_folded.2.1 6 = .ok (.iconst (-1), 1) := by decide +kernel
theorem d_M_folded_7 : decode md_M_folded.2.1 7 = .ok (.if_icmp .ne 7, 3) := by decide +kernel
theorem d_M_folded_10 : decode md_M_folded.2.1 10 = .ok (.iconst 1, 1) := by decide +kernel
theorem d_M_folded_11 : decode md_M_folded.2.1 11 = .ok (.goto 4, 3) := by decide +kernel
theorem d_M_folded_14 : decode md_M_folded.2.1 14 = .ok (.iconst 0, 1) := by decide +kernel
theorem d_M_folded_15 : decode md_M_folded.2.1 15 = .ok (.putfield 67, 3) := by decide +kernel
theorem d_M_folded_18 : decode md_M_folded.2.1 18 = .ok (.aload_n 0, 1) := by decide +kernel
theorem d_M_folded_19 : decode md_M_folded.2.1 19 = .ok (.getfield 67, 3) := by decide +kernel
theorem d_M_folded_22 : decode md_M_folded.2.1 22 = .ok (.ifCond .ne 7, 3) := by decide +kernel
theorem d_M_folded_25 : decode md_M_folded.2.1 25 = .ok (.iconst 1, 1) := by decide +kernel
theorem d_M_folded_26 : decode md_M_folded.2.1 26 = .ok (.goto 4, 3) := by decide +kernel
theorem d_M_folded_29 : decode md_M_folded.2.1 29 = .ok (.iconst 0, 1) := by decide +kernel
theorem d_M_folded_30 : decode md_M_folded.2.1 30 = .ok (.ireturn, 1) := by decide +kernel
theorem d_M_joined_0 : decode md_M_joined.2.1 0 = .ok (.aload_n 0, 1) := by decide +kernel
theorem d_M_joined_1 : decode md_M_joined.2.1 1 = .ok (.aload_n 0, 1) := by decide +kernel
theorem d_M_joined_2 : decode md_M_joined.2.1 2 = .ok (.iload_n 1, 1) := by decide +kernel
theorem d_M_joined_3 : decode md_M_joined.2.1 3 = .ok (.invokevirtual 83, 3) := by decide +kernel
theorem d_M_joined_6 : decode md_M_joined.2.1 6 = .ok (.ifCond .eq 7, 3) := by decide +kernel
theorem d_M_joined_9 : decode md_M_joined.2.1 9 = .ok (.iconst 0, 1) := by decide +kernel
theorem d_M_joined_10 : decode md_M_joined.2.1 10 = .ok (.goto 4, 3) := by decide +kernel
theorem d_M_joined_13 : decode md_M_joined.2.1 13 = .ok (.iconst 1, 1) := by decide +kernel
theorem d_M_joined_14 : decode md_M_joined.2.1 14 = .ok (.putfield 67, 3) := by decide +kernel
theorem d_M_joined_17 : decode md_M_joined.2.1 17 = .ok (.aload_n 0, 1) := by decide +kernel
theorem d_M_joined_18 : decode md_M_joined.2.1 18 = .ok (.getfield 67, 3) := by decide +kernel
theorem d_M_joined_21 : decode md_M_joined.2.1 21 = .ok (.ifCond .le 5, 3) := by decide +kernel
theorem d_M_joined_24 : decode md_M_joined.2.1 24 = .ok (.iconst 0, 1) := by decide +kernel
theorem d_M_joined_25 : decode md_M_joined.2.1 25 = .ok (.ireturn, 1) := by decide +kernel
theorem d_M_joined_26 : decode md_M_joined.2.1 26 = .ok (.iconst 1, 1) := by decide +kernel
theorem d_M_joined_27 : decode md_M_joined.2.1 27 = .ok (.istore_n 2, 1) := by decide +kernel
theorem d_M_joined_28 : decode md_M_joined.2.1 28 = .ok (.iconst 0, 1) := by decide +kernel
theorem d_M_joined_29 : decode md_M_joined.2.1 29 = .ok (.istore_n 3, 1) := by decide +kernel
theorem d_M_joined_30 : decode md_M_joined.2.1 30 = .ok (.iload_n 3, 1) := by decide +kernel
theorem d_M_joined_31 : decode md_M_joined.2.1 31 = .ok (.aload_n 0, 1) := by decide +kernel
theorem d_M_joined_32 : decode md_M_joined.2.1 32 = .ok (.getfield 74, 3) := by decide +kernel
theorem d_M_joined_35 : decode md_M_joined.2.1 35 = .ok (.if_icmp .ge 98, 3) := by decide +kernel
theorem d_M_joined_38 : decode md_M_joined.2.1 38 = .ok (.aload_n 0, 1) := by decide +kernel
theorem d_M_joined_39 : decode md_M_joined.2.1 39 = .ok (.aload_n 0, 1) := by decide +kernel
theorem d_M_joined_40 : decode md_M_joined.2.1 40 = .ok (.getfield 7, 3) := by decide +kernel
theorem d_M_joined_43 : decode md_M_joined.2.1 43 = .ok (.iload_n 1, 1) := by decide +kernel
theorem d_M_joined_44 : decode md_M_joined.2.1 44 = .ok (.iaload, 1) := by decide +kernel
theorem d_M_joined_45 : decode md_M_joined.2.1 45 = .ok (.invokevirtual 145, 3) := by decide +kernel
theorem d_M_joined_48 : decode md_M_joined.2.1 48 = .ok (.ifCond .eq 85, 3) := by decide +kernel
theorem d_M_joined_51 : decode md_M_joined.2.1 51 = .ok (.aload_n 0, 1) := by decide +kernel
theorem d_M_joined_52 : decode md_M_joined.2.1 52 = .ok (.getfield 13, 3) := by decide +kernel
theorem d_M_joined_55 : decode md_M_joined.2.1 55 = .ok (.iload_n 1, 1) := by decide +kernel
theorem d_M_joined_56 : decode md_M_joined.2.1 56 = .ok (.laload, 1) := by decide +kernel
theorem d_M_joined_57 : decode md_M_joined.2.1 57 = .ok (.lstore 4, 2) := by decide +kernel
theorem d_M_joined_59 : decode md_M_joined.2.1 59 = .ok (.aload_n 0, 1) := by decide +kernel
theorem d_M_joined_60 : decode md_M_joined.2.1 60 = .ok (.getfield 29, 3) := by decide +kernel
theorem d_M_joined_63 : decode md_M_joined.2.1 63 = .ok (.iload_n 3, 1) := by decide +kernel
theorem d_M_joined_64 : decode md_M_joined.2.1 64 = .ok (.iaload, 1) := by decide +kernel
theorem d_M_joined_65 : decode md_M_joined.2.1 65 = .ok (.iconst 1, 1) := by decide +kernel
theorem d_M_joined_66 : decode md_M_joined.2.1 66 = .ok (.isub, 1) := by decide +kernel
theorem d_M_joined_67 : decode md_M_joined.2.1 67 = .ok (.istore 6, 2) := by decide +kernel
theorem d_M_joined_69 : decode md_M_joined.2.1 69 = .ok (.iload 6, 2) := by decide +kernel
theorem d_M_joined_71 : decode md_M_joined.2.1 71 = .ok (.ifCond .lt 33, 3) := by decide +kernel
theorem d_M_joined_74 : decode md_M_joined.2.1 74 = .ok (.aload_n 0, 1) := by decide +kernel
theorem d_M_joined_75 : decode md_M_joined.2.1 75 = .ok (.iload_n 1, 1) := by decide +kernel
theorem d_M_joined_76 : decode md_M_joined.2.1 76 = .ok (.lload 4, 2) := by decide +kernel
theorem d_M_joined_78 : decode md_M_joined.2.1 78 = .ok (.lconst 0, 1) := by decide +kernel
theorem d_M_joined_79 : decode md_M_joined.2.1 79 = .ok (.aload_n 0, 1) := by decide +kernel
end
section
theorem d_M_joined_80 : decode md_M_joined.2.1 80 = .ok (.getfield 38, 3) := by decide +kernel
theorem d_M_joined_83 : decode md_M_joined.2.1 83 = .ok (.bipush 62, 2) := by decide +kernel
theorem d_M_joined_85 : decode md_M_joined.2.1 85 = .ok (.iload_n 3, 1) := by decide +kernel
theorem d_M_joined_86 : decode md_M_joined.2.1 86 = .ok (.imul, 1) := by decide +kernel
theorem d_M_joined_87 : decode md_M_joined.2.1 87 = .ok (.iload 6, 2) := by decide +kernel
theorem d_M_joined_89 : decode md_M_joined.2.1 89 = .ok (.iadd, 1) := by decide +kernel
theorem d_M_joined_90 : decode md_M_joined.2.1 90 = .ok (.laload, 1) := by decide +kernel
theorem d_M_joined_91 : decode md_M_joined.2.1 91 = .ok (.iconst 0, 1) := by decide +kernel
theorem d_M_joined_92 : decode md_M_joined.2.1 92 = .ok (.lconst 0, 1) := by decide +kernel
theorem d_M_joined_93 : decode md_M_joined.2.1 93 = .ok (.invokevirtual 97, 3) := by decide +kernel
theorem d_M_joined_96 : decode md_M_joined.2.1 96 = .ok (.lstore 4, 2) := by decide +kernel
theorem d_M_joined_98 : decode md_M_joined.2.1 98 = .ok (.iinc 6 (-1), 3) := by decide +kernel
theorem d_M_joined_101 : decode md_M_joined.2.1 101 = .ok (.goto (-32), 3) := by decide +kernel
theorem d_M_joined_104 : decode md_M_joined.2.1 104 = .ok (.iload_n 2, 1) := by decide +kernel
theorem d_M_joined_105 : decode md_M_joined.2.1 105 = .ok (.lload 4, 2) := by decide +kernel
theorem d_M_joined_107 : decode md_M_joined.2.1 107 = .ok (.aload_n 0, 1) := by decide +kernel
theorem d_M_joined_108 : decode md_M_joined.2.1 108 = .ok (.iload_n 3, 1) := by decide +kernel
theorem d_M_joined_109 : decode md_M_joined.2.1 109 = .ok (.iload_n 1, 1) := by decide +kernel
theorem d_M_joined_110 : decode md_M_joined.2.1 110 = .ok (.ldc2_w 177, 3) := by decide +kernel
theorem d_M_joined_113 : decode md_M_joined.2.1 113 = .ok (.invokevirtual 173, 3) := by decide +kernel
theorem d_M_joined_116 : decode md_M_joined.2.1 116 = .ok (.lcmp, 1) := by decide +kernel
theorem d_M_joined_117 : decode md_M_joined.2.1 117 = .ok (.ifCond .ne 7, 3) := by decide +kernel
theorem d_M_joined_120 : decode md_M_joined.2.1 120 = .ok (.iconst 1, 1) := by decide +kernel
theorem d_M_joined_121 : decode md_M_joined.2.1 121 = .ok (.goto 4, 3) := by decide +kernel
theorem d_M_joined_124 : decode md_M_joined.2.1 124 = .ok (.iconst 0, 1) := by decide +kernel
theorem d_M_joined_125 : decode md_M_joined.2.1 125 = .ok (.iand, 1) := by decide +kernel
theorem d_M_joined_126 : decode md_M_joined.2.1 126 = .ok (.istore_n 2, 1) := by decide +kernel
theorem d_M_joined_127 : decode md_M_joined.2.1 127 = .ok (.iinc 3 1, 3) := by decide +kernel
theorem d_M_joined_130 : decode md_M_joined.2.1 130 = .ok (.goto (-100), 3) := by decide +kernel
theorem d_M_joined_133 : decode md_M_joined.2.1 133 = .ok (.iload_n 2, 1) := by decide +kernel
theorem d_M_joined_134 : decode md_M_joined.2.1 134 = .ok (.ireturn, 1) := by decide +kernel
end
section
/-! PART 04: walks over a pure picture of the heap. A picture M gives for an address what lies there: an object (class number, fields) or an array (array kind, contents).
Kinds of arrays stand in jx_ats. Addresses below B were there before the law began: none of them is written, none is in a picture. -/
abbrev jx_E : Type := (Nat × List Value) ⊕ (Nat × vp_A)
abbrev jx_H : Type := Nat → Option jx_E
/-- what stays through the whole run: the classes' numbers, B, the script's address, length, contents, the address of ArrayList's empty array -/
abbrev jx_G : Type := va_G × Nat × Nat × Nat × (Nat → Int32) × Nat × Nat
abbrev jx_D (G : jx_G) : va_G := G.1
abbrev jx_B (G : jx_G) : Nat := G.2.1
abbrev jx_sa (G : jx_G) : Nat := G.2.2.1
abbrev jx_sl (G : jx_G) : Nat := G.2.2.2.1
abbrev jx_sx (G : jx_G) : Nat → Int32 := G.2.2.2.2.1
abbrev jx_ea (G : jx_G) : Nat := G.2.2.2.2.2.1
abbrev jx_mi (G : jx_G) : Nat := G.2.2.2.2.2.2
def jx_ats : List (Nat × FieldType) := [(50, .int), (51, .long), (52, .object "java/lang/Object")]
def jx_ty (G : jx_G) : List (ClassId × FieldType) := jx_ats.map (fun q => ((jx_D G).1 q.1, q.2))
def jx_we (G : jx_G) (e : jx_E) : va_E := match e with
  | .inl o => .inr o
  | .inr o => .inl ((jx_D G).1 o.1, o.2)
def jx_at (G : jx_G) (a : Nat) (e : jx_E) (H : Heap) : Prop := va_at (jx_D G) vwCl (a, jx_we G e) H
def jx_R (G : jx_G) (M : jx_H) (sz : Nat) (H : Heap) : Prop := H.size = sz ∧ jx_B G ≤ sz ∧ ∀ (a : Nat) (e : jx_E), M a = some e → jx_B G ≤ a ∧ jx_at G a e H
def jx_up (M : jx_H) (a : Nat) (e : jx_E) : jx_H := fun q => if q = a then some e else M q
theorem jx_up_s (M : jx_H) (a : Nat) (e : jx_E) : jx_up M a e a = some e := by simp [jx_up]
theorem jx_up_n (M : jx_H) {a q : Nat} (e : jx_E) (h : q ≠ a) : jx_up M a e q = M q := by simp [jx_up, h]
theorem jx_up_u (M : jx_H) (a : Nat) (e e' : jx_E) : jx_up (jx_up M a e) a e' = jx_up M a e' := by
  funext q
  by_cases h : q = a <;> simp [jx_up, h]
theorem jx_up_c (M : jx_H) {a b : Nat} (e e' : jx_E) (h : a ≠ b) : jx_up (jx_up M a e) b e' = jx_up (jx_up M b e') a e := by
  funext q
  by_cases h1 : q = a
  · subst h1
    simp [jx_up, h]
  · by_cases h2 : q = b <;> simp [jx_up, h1, h2, Ne.symm h]
theorem jx_up_id (M : jx_H) {a : Nat} {e : jx_E} (h : M a = some e) : jx_up M a e = M := by
  funext q
  by_cases h1 : q = a
  · subst h1
    simp [jx_up, h]
  · simp [jx_up, h1]
theorem jx_R.lt {G : jx_G} {M : jx_H} {sz : Nat} {H : Heap} (h : jx_R G M sz H) {a : Nat} {e : jx_E} (ha : M a = some e) : a < sz := by
  have := va_at.lt (h.2.2 a e ha).2
  rw [h.1] at this
  exact this
theorem jx_at.kept {G : jx_G} {a : Nat} {e : jx_E} {H H1 : Heap} (h : jx_at G a e H) (hq : H1[a]? = H[a]?) : jx_at G a e H1 := va_at.kept h hq
theorem jx_R.set {G : jx_G} {M : jx_H} {sz : Nat} {H H1 : Heap} {a : Nat} {e : jx_E} (h : jx_R G M sz H) (hB : jx_B G ≤ a) (hz : H1.size = H.size) (ho : ∀ q : Nat, q ≠ a → H1[q]? = H[q]?) (he : jx_at G a e H1) : jx_R G (jx_up M a e) sz H1 := by
  refine ⟨hz.trans h.1, h.2.1, fun b x hb => ?_⟩
  by_cases hba : b = a
  · subst hba
    rw [jx_up_s] at hb
    cases hb
    exact ⟨hB, he⟩
  · rw [jx_up_n _ _ hba] at hb
    exact ⟨(h.2.2 b x hb).1, (h.2.2 b x hb).2.kept (ho b hba)⟩
theorem jx_R.push {G : jx_G} {M : jx_H} {sz : Nat} {H H1 : Heap} {e : jx_E} (h : jx_R G M sz H) (hz : H1.size = sz + 1) (ho : ∀ q : Nat, q < sz → H1[q]? = H[q]?) (he : jx_at G sz e H1) : jx_R G (jx_up M sz e) (sz + 1) H1 := by
  refine ⟨hz, Nat.le_succ_of_le h.2.1, fun b x hb => ?_⟩
  by_cases hba : b = sz
  · subst hba
    rw [jx_up_s] at hb
    cases hb
    exact ⟨h.2.1, he⟩
  · rw [jx_up_n _ _ hba] at hb
    exact ⟨(h.2.2 b x hb).1, (h.2.2 b x hb).2.kept (ho b (h.lt hb))⟩
/-- the tables' words that calls don't carry by themselves -/
def jx_mv : Cond → Bool
  | .castable .. => true
  | .methodLinkNest .. => true
  | .arrayOver (.object _) => true
  | .declares _ => true
  | _ => false
def jx_nb : List Cond := lw_tbl.filter jx_mv
theorem jx_nbm {w : Cond} (i : Nat) (h : tables_1[i]? = some w) (hg : jx_mv w = true) : w ∈ jx_nb := List.mem_filter.mpr ⟨List.mem_append_right _ (List.mem_of_getElem? h), hg⟩
def jx_str : Cond → Option (String × Nat × String)
  | .stringRef own k tx => some (own, k, tx)
  | _ => none
def jx_strs : List (String × Nat × String) := tables_1.filterMap jx_str
def jx_K (G : jx_G) (U : State) : Prop := va_K (jx_D G) vwCl (jx_ty G) U ∧ (∀ w ∈ jx_nb, va_Nw w U) ∧ va_X (jx_sa G) (jx_sl G) (jx_sx G) U U.heap ∧ jx_sa G < jx_B G ∧
  va_Z "java/util/ArrayList" "DEFAULTCAPACITY_EMPTY_ELEMENTDATA" "[Ljava/lang/Object;" (.ref (jx_ea G)) (fun q => jx_B G ≤ q) U U.heap ∧ va_T (.object "java/lang/Object") (jx_ea G) 0 (fun _ => .null) (fun q => jx_B G ≤ q) U U.heap ∧
  vx_Zq Bundle.tN "UNASSIGNED_STACK" Bundle.steD (fun q => jx_B G ≤ q) U U.heap ∧ vx_Zq Bundle.tN "SUPPRESSED_SENTINEL" Bundle.listD (fun q => jx_B G ≤ q) U U.heap ∧ (∀ q ∈ jx_strs, ∃ sa, vk_R q.1 q.2.1 q.2.2 sa U) ∧ jx_B G ≤ U.heap.size ∧ va_Mi "[Ljava/lang/Object;" (jx_mi G) U
theorem jx_nb_mv {w : Cond} {s U : State} (hm : jx_mv w = true) (hW : s.WarmedH U.vm) (h : va_Nw w s) : va_Nw w U := by
  unfold jx_mv at hm
  split at hm
  · exact va_Nw.warmC hW h
  · exact va_Nw.warmM hW h
  · exact va_AO.moved hW.alike h
  · exact va_Nw.warmD hW h
  · cases hm
theorem jx_K.to {G : jx_G} {s U : State} (h : jx_K G s) (hW : s.WarmedH U.vm) (hq : ∀ q : Nat, q < jx_B G → U.heap[q]? = s.heap[q]?) (hz : s.heap.size ≤ U.heap.size) : jx_K G U := by
  obtain ⟨h1, h2, h3, h4, h5, h6, h7, h8, h9, h10, h11⟩ := h
  have hk : ∀ a : Nat, a < s.heap.size → ¬ jx_B G ≤ a → U.heap[a]? = s.heap[a]? := fun a _ hn => hq a (Nat.not_le.mp hn)
  exact ⟨va_K.moved hW.alike h1, fun w hw => jx_nb_mv (List.mem_filter.mp hw).2 hW (h2 w hw), (va_X.moved hW.alike h3).kept (hq _ h4), h4, (va_Z.moved hW.alike h5).kept hk, (va_T.moved hW.alike h6).kept hk, (vx_Zq.moved hW.alike h7).kept hk, (vx_Zq.moved hW.alike h8).kept hk, fun q hq' => by obtain ⟨sa, hs⟩ := h9 q hq'; exact ⟨sa, vk_R.warm hW hs⟩, Nat.le_trans h10 hz, h11.moved hW.alike⟩
theorem jx_K.call {G : jx_G} {U : State} {g : JFrame} {mk : MethodId} {a : Array Value} (h : jx_K G U) : jx_K G (U.calling g mk a) := jx_K.to h (State.WarmedH.refl U) (fun _ _ => rfl) (Nat.le_refl _)
def jx_S (G : jx_G) (H0 H : Heap) (locs : List Loc) : Prop := H0.size ≤ H.size ∧ (∀ q : Nat, q < jx_B G → H[q]? = H0[q]?) ∧ ∀ l ∈ locs, jx_B G ≤ l.base
theorem jx_S.va {G : jx_G} {H0 H : Heap} {locs : List Loc} (h : jx_S G H0 H locs) : va_S (fun q => jx_B G ≤ q) H0 H locs := ⟨h.1, fun q _ hn => h.2.1 q (Nat.not_le.mp hn), h.2.2⟩
theorem jx_S.put {G : jx_G} {H0 H H1 : Heap} {locs : List Loc} {a k : Nat} (h : jx_S G H0 H locs) (z : H1.size = H.size) (oq : ∀ q : Nat, q ≠ a → H1[q]? = H[q]?) (ha : jx_B G ≤ a) : jx_S G H0 H1 (locs ++ [⟨a, k⟩]) := by
  refine ⟨by rw [z]; exact h.1, fun q h1 => ?_, fun q hq => ?_⟩
  · rw [oq q (by omega)]
    exact h.2.1 q h1
  · rcases List.mem_append.mp hq with h1 | h1
    · exact h.2.2 q h1
    · rw [List.mem_singleton.mp h1]
      exact ha
theorem jx_S.push {G : jx_G} {H0 H H1 : Heap} {locs : List Loc} {sz : Nat} (h : jx_S G H0 H locs) (hs : H.size = sz) (hB : jx_B G ≤ sz) (z : H1.size = sz + 1) (oq : ∀ q : Nat, q < sz → H1[q]? = H[q]?) : jx_S G H0 H1 locs := by
  refine ⟨by rw [z]; have := h.1; omega, fun q h1 => ?_, h.2.2⟩
  rw [oq q (by omega)]
  exact h.2.1 q h1
theorem jx_S.call {G : jx_G} {H0 H H1 : Heap} {locs L : List Loc} (h : jx_S G H0 H locs) (z : H.size ≤ H1.size) (oq : ∀ q : Nat, q < jx_B G → H1[q]? = H[q]?) (hL : ∀ l ∈ L, jx_B G ≤ l.base) : jx_S G H0 H1 (locs ++ L) := by
  refine ⟨Nat.le_trans h.1 z, fun q h1 => (oq q h1).trans (h.2.1 q h1), fun q hq => ?_⟩
  rcases List.mem_append.mp hq with h1 | h1
  · exact h.2.2 q h1
  · exact hL q h1
/-- the locals, by place: 'none' where nothing is known -/
def jx_L (ls : Array Slot) (n : Nat) (l : List (Option Value)) : Prop := ls.size = n ∧ lv_wf ls ∧ ∀ (i : Nat) (v : Value), l[i]? = some (some v) → ls[i]? = some (.val v)
def jx_pr : Nat → List (Option Value) → List (Nat × Value)
  | _, [] => []
  | i, none :: r => jx_pr (i + 1) r
  | i, some v :: r => (i, v) :: jx_pr (i + 1) r
theorem jx_pr_mem : ∀ (l : List (Option Value)) (k i : Nat) (v : Value), (i, v) ∈ jx_pr k l ↔ k ≤ i ∧ l[i - k]? = some (some v) := by
  intro l
  induction l with
  | nil => intro k i v; simp [jx_pr]
  | cons x r ih =>
    intro k i v
    have key : ∀ {P : Prop}, (k + 1 ≤ i ∧ r[i - (k + 1)]? = some (some v)) ↔ (k < i ∧ (x :: r)[i - k]? = some (some v)) := by
      intro _
      constructor
      · rintro ⟨h1, h2⟩
        refine ⟨h1, ?_⟩
        rw [show i - k = (i - (k + 1)) + 1 by omega]
        simpa using h2
      · rintro ⟨h1, h2⟩
        refine ⟨h1, ?_⟩
        rw [show i - k = (i - (k + 1)) + 1 by omega] at h2
        simpa using h2
    cases x with
    | none =>
      rw [show jx_pr k (none :: r) = jx_pr (k + 1) r from rfl, ih, key (P := True)]
      constructor
      · rintro ⟨h1, h2⟩
        exact ⟨by omega, h2⟩
      · rintro ⟨h1, h2⟩
        rcases Nat.lt_or_ge k i with h | h
        · exact ⟨h, h2⟩
        · have : i - k = 0 := by omega
          rw [this] at h2
          simp at h2
    | some w =>
      rw [show jx_pr k (some w :: r) = (k, w) :: jx_pr (k + 1) r from rfl, List.mem_cons, ih, key (P := True)]
      constructor
      · rintro (h | ⟨h1, h2⟩)
        · cases h
          simp
        · exact ⟨by omega, h2⟩
      · rintro ⟨h1, h2⟩
        rcases Nat.lt_or_ge k i with h | h
        · exact Or.inr ⟨h, h2⟩
        · have e0 : i = k := by omega
          subst e0
          simp at h2
          exact Or.inl (by rw [h2])
theorem jx_L.has {ls : Array Slot} {n : Nat} {l : List (Option Value)} (h : jx_L ls n l) : lv_has ls n (jx_pr 0 l) := by
  refine ⟨h.1, h.2.1, fun q hq => ?_⟩
  obtain ⟨i, v⟩ := q
  have := (jx_pr_mem l 0 i v).mp hq
  exact h.2.2 i v (by simpa using this.2)
/-- a list of locals of which each is known of another one -/
theorem jx_L.to {ls : Array Slot} {n : Nat} {l l' : List (Option Value)} (h : jx_L ls n l) (hl : ∀ (i : Nat) (v : Value), l'[i]? = some (some v) → l[i]? = some (some v)) : jx_L ls n l' := ⟨h.1, h.2.1, fun i v hv => h.2.2 i v (hl i v hv)⟩
def jx_le : List (Option Value) → List (Option Value) → Prop
  | _, [] => True
  | x :: r, y :: r' => (y = none ∨ x = y) ∧ jx_le r r'
  | [], y :: r' => y = none ∧ jx_le [] r'
theorem jx_le_at : ∀ (l' l : List (Option Value)), jx_le l l' → ∀ (i : Nat) (v : Value), l'[i]? = some (some v) → l[i]? = some (some v) := by
  intro l'
  induction l' with
  | nil => intro l _ i v h; simp at h
  | cons y r' ih =>
    intro l hle i v h
    cases l with
    | nil =>
      obtain ⟨h1, h2⟩ := hle
      cases i with
      | zero => simp [h1] at h
      | succ j =>
        have := ih [] h2 j v (by simpa using h)
        simp at this
    | cons x r =>
      obtain ⟨h1, h2⟩ := hle
      cases i with
      | zero =>
        rcases h1 with h1 | h1
        · simp [h1] at h
        · simpa [h1] using h
      | succ j => simpa using ih r h2 j v (by simpa using h)
/-- the arguments laid into locals -/
def jx_eas : List Value → List (Option Value)
  | [] => []
  | v :: vs => if v.category = 2 then some v :: none :: jx_eas vs else some v :: jx_eas vs
theorem jx_eas_mem : ∀ (vs : List Value) (k i : Nat) (v : Value), (jx_eas vs)[i]? = some (some v) → (k + i, v) ∈ lv_args k vs := by
  intro vs
  induction vs with
  | nil => intro k i v h; simp [jx_eas] at h
  | cons x r ih =>
    intro k i v h
    rw [show lv_args k (x :: r) = (k, x) :: lv_args (if x.category = 2 then k + 2 else k + 1) r from rfl]
    rw [List.mem_cons]
    by_cases hc : x.category = 2
    · simp only [jx_eas, if_pos hc] at h ⊢
      match i, h with
      | 0, h => simp at h; exact Or.inl (by rw [h]; rfl)
      | 1, h => simp at h
      | j + 2, h =>
        have := ih (k + 2) j v (by simpa using h)
        exact Or.inr (by rw [show k + (j + 2) = k + 2 + j by omega]; exact this)
    · simp only [jx_eas, if_neg hc] at h ⊢
      match i, h with
      | 0, h => simp at h; exact Or.inl (by rw [h]; rfl)
      | j + 1, h =>
        have := ih (k + 1) j v (by simpa using h)
        exact Or.inr (by rw [show k + (j + 1) = k + 1 + j by omega]; exact this)
theorem jx_L.entry {vs : List Value} {n : Nat} {l : List (Option Value)} (h : (lg_sl vs).length ≤ n) (hl : jx_le (jx_eas vs) l) : jx_L ((lg_sl vs ++ List.replicate (n - (lg_sl vs).length) Slot.unset).toArray) n l := by
  obtain ⟨h1, h2, h3⟩ := lv_entry vs h
  refine ⟨h1, h2, fun i v hv => ?_⟩
  have := jx_eas_mem vs 0 i v (jx_le_at _ _ hl i v hv)
  rw [Nat.zero_add] at this
  exact h3 _ this
/-- l' is l with v stored at place i -/
def jx_st1 (l : List (Option Value)) (i : Nat) (v : Value) (l' : List (Option Value)) : Prop := ∀ (j : Nat) (u : Value), l'[j]? = some (some u) → (j = i ∧ u = v) ∨ (j ≠ i ∧ l[j]? = some (some u) ∧ ¬ (j + 1 = i ∧ u.category = 2))
def jx_st2 (l : List (Option Value)) (i : Nat) (v : Value) (l' : List (Option Value)) : Prop := ∀ (j : Nat) (u : Value), l'[j]? = some (some u) → (j = i ∧ u = v) ∨ (j ≠ i ∧ j ≠ i + 1 ∧ l[j]? = some (some u) ∧ ¬ (j + 1 = i ∧ u.category = 2))
/-- no long, no double -/
def jx_nl (a : Option Value) : Prop := match a with
  | some v => v.category = 1
  | none => True
theorem jx_pre {pre : List (Option Value)} {j i : Nat} {u : Value} (hp : jx_nl (pre.getLast?.getD none)) (hi : i = pre.length) (hj : j + 1 = i) (hu : pre[j]? = some (some u)) : u.category = 1 := by
  have : pre.getLast? = some (some u) := by
    rw [List.getLast?_eq_getElem?, ← hi, ← hj]
    simpa using hu
  rw [this] at hp
  exact hp
theorem jx_st1_app (pre post : List (Option Value)) {x : Option Value} {v : Value} (hp : jx_nl (pre.getLast?.getD none)) : jx_st1 (pre ++ x :: post) pre.length v (pre ++ some v :: post) := by
  intro j u hj
  rcases Nat.lt_trichotomy j pre.length with h | h | h
  · rw [List.getElem?_append_left h] at hj
    exact Or.inr ⟨by omega, by rw [List.getElem?_append_left h]; exact hj, fun q => by have := jx_pre hp rfl q.1 hj; omega⟩
  · subst h
    rw [List.getElem?_append_right (Nat.le_refl _)] at hj
    simp at hj
    exact Or.inl ⟨rfl, hj.symm⟩
  · rw [List.getElem?_append_right (by omega)] at hj ⊢
    obtain ⟨k, hk⟩ : ∃ k, j - pre.length = k + 1 := ⟨j - pre.length - 1, by omega⟩
    rw [hk] at hj ⊢
    exact Or.inr ⟨by omega, by simpa using hj, fun q => by omega⟩
theorem jx_st2_app (pre post : List (Option Value)) {x x' : Option Value} {v : Value} (hp : jx_nl (pre.getLast?.getD none)) : jx_st2 (pre ++ x :: x' :: post) pre.length v (pre ++ some v :: none :: post) := by
  intro j u hj
  rcases Nat.lt_trichotomy j pre.length with h | h | h
  · rw [List.getElem?_append_left h] at hj
    exact Or.inr ⟨by omega, by omega, by rw [List.getElem?_append_left h]; exact hj, fun q => by have := jx_pre hp rfl q.1 hj; omega⟩
  · subst h
    rw [List.getElem?_append_right (Nat.le_refl _)] at hj
    simp at hj
    exact Or.inl ⟨rfl, hj.symm⟩
  · rw [List.getElem?_append_right (by omega)] at hj ⊢
    obtain ⟨k, hk⟩ : ∃ k, j - pre.length = k + 1 := ⟨j - pre.length - 1, by omega⟩
    rw [hk] at hj ⊢
    cases k with
    | zero => simp at hj
    | succ k => exact Or.inr ⟨by omega, by omega, by simpa using hj, fun q => by omega⟩
theorem jx_st1_ok {ls : Array Slot} {n i : Nat} {v : Value} {l l' : List (Option Value)} (h : lv_has ls n ((i, v) :: (jx_pr 0 l).filter (fun q => !(q.1 == i) && !(q.1 + 1 == i && q.2.category == 2)))) (hl : jx_st1 l i v l') : jx_L ls n l' := by
  refine ⟨h.1, h.2.1, fun j u hj => ?_⟩
  refine h.2.2 (j, u) ?_
  rcases hl j u hj with ⟨rfl, rfl⟩ | ⟨h1, h2, h3⟩
  · exact List.mem_cons_self
  · refine List.mem_cons_of_mem _ (List.mem_filter.mpr ⟨(jx_pr_mem l 0 j u).mpr ⟨Nat.zero_le _, by simpa using h2⟩, ?_⟩)
    simp only [Bool.and_eq_true, Bool.not_eq_true', beq_eq_false_iff_ne, ne_eq, Bool.and_eq_false_iff]
    refine ⟨h1, ?_⟩
    by_cases hc : u.category = 2
    · exact Or.inl (fun q => h3 ⟨q, hc⟩)
    · exact Or.inr hc
theorem jx_st2_ok {ls : Array Slot} {n i : Nat} {v : Value} {l l' : List (Option Value)} (h : lv_has ls n ((i, v) :: (jx_pr 0 l).filter (fun q => !(q.1 == i) && (!(q.1 == i + 1) && !(q.1 + 1 == i && q.2.category == 2))))) (hl : jx_st2 l i v l') : jx_L ls n l' := by
  refine ⟨h.1, h.2.1, fun j u hj => ?_⟩
  refine h.2.2 (j, u) ?_
  rcases hl j u hj with ⟨rfl, rfl⟩ | ⟨h1, h4, h2, h3⟩
  · exact List.mem_cons_self
  · refine List.mem_cons_of_mem _ (List.mem_filter.mpr ⟨(jx_pr_mem l 0 j u).mpr ⟨Nat.zero_le _, by simpa using h2⟩, ?_⟩)
    simp only [Bool.and_eq_true, Bool.not_eq_true', beq_eq_false_iff_ne, ne_eq, Bool.and_eq_false_iff]
    refine ⟨h1, h4, ?_⟩
    by_cases hc : u.category = 2
    · exact Or.inl (fun q => h3 ⟨q, hc⟩)
    · exact Or.inr hc
/-- a method: its name, its code, its locals, its answer's type -/
abbrev jx_md : Type := MethodName × ByteArray × Nat × Option FieldType
abbrev jx_h4 : Type := List (Nat × Nat × Nat × Nat)
def jx_CX (y : jx_md) (hh : jx_h4) (p : Program) (L : Launch) (s : State) (m : MethodId) (args : Array Value) (meth : Method) (c : Code) : Prop :=
  p.tables.exec = Jvm.exec ∧ c.code = y.2.1 ∧ meth.sig.returnType = y.2.2.2 ∧ c.maxLocals = y.2.2.1 ∧ s.vm.findClass y.1.cls = some m.cls ∧ (∀ w ∈ jx_tb, w.before args s = true) ∧ meth.locks = false ∧ meth.name = y.1.name ∧
  c.exceptionTable.toList.map (fun h => (h.startPc, h.endPc, h.handlerPc, h.catchType)) = hh ∧ L.stackTraces = false
/-- THE JUDGEMENT: from the frame at pc, with locals l, stack st, over every heap that holds the picture M, kc cells and ks slots made so far, the machine comes to Q -/
def jx_V (y : jx_md) (hh : jx_h4) (G : jx_G) (R : Room) (Q : Array Value → State → List Frame → State → Prop) (pc : Nat) (l : List (Option Value)) (st : List Value) (M : jx_H) (sz kc ks : Nat) : Prop :=
  ∀ (p : Program) (L : Launch) (e : Env) (s : State) (m : MethodId) (args : Array Value) (below : List Frame) (meth : Method) (c : Code), jx_CX y hh p L s m args meth c → jx_K G s →
    ∀ (H : Heap) (locs : List Loc) (ls : Array Slot), jx_R G M sz H → jx_S G s.heap H locs → jx_L ls y.2.2.1 l → W p L e R s m args below meth c H locs kc ks (Q args s below) (F0 m pc ls st)
section JX
variable {y : jx_md} {hh : jx_h4} {G : jx_G} {R : Room} {Q : Array Value → State → List Frame → State → Prop} {pc : Nat} {l : List (Option Value)} {st : List Value} {M : jx_H} {sz kc ks : Nat}
theorem jx_wk {l' : List (Option Value)} (hl : jx_le l l') (k : jx_V y hh G R Q pc l' st M sz kc ks) : jx_V y hh G R Q pc l st M sz kc ks := by
  intro p L e s m args below meth c C K H locs ls hR hS hL
  exact k p L e s m args below meth c C K H locs ls hR hS (hL.to (jx_le_at _ _ hl))
theorem jx_wi {kc' ks' : Nat} (h1 : kc ≤ kc') (h2 : ks ≤ ks') (k : jx_V y hh G R Q pc l st M sz kc' ks') : jx_V y hh G R Q pc l st M sz kc ks := by
  intro p L e s m args below meth c C K H locs ls hR hS hL
  exact W.widen h1 h2 (k p L e s m args below meth c C K H locs ls hR hS hL)
/-- what the picture tells of addresses: none lies beyond -/
theorem jx_lt (k : (∀ a e, M a = some e → a < sz) → jx_V y hh G R Q pc l st M sz kc ks) : jx_V y hh G R Q pc l st M sz kc ks := by
  intro p L e s m args below meth c C K H locs ls hR hS hL
  exact k (fun a e h => hR.lt h) p L e s m args below meth c C K H locs ls hR hS hL
theorem jx_pc {pc' : Nat} (h : pc = pc') (k : jx_V y hh G R Q pc' l st M sz kc ks) : jx_V y hh G R Q pc l st M sz kc ks := by
  subst h
  exact k

theorem jx_iconst {n : Int} {v : Int32} (d : decode y.2.1 pc = .ok (.iconst n, 1)) (hv : Int32.ofInt n = v) (k : jx_V y hh G R Q (pc + 1) l (.int v :: st) M sz kc ks) : jx_V y hh G R Q (pc) l (st) M sz kc ks := by
  intro p L e s m args below meth c C K H locs ls hR hS hL
  obtain ⟨hx, hb, hr, hml, hown, hts, hlk, hnm, hex, hst⟩ := id C
  exact lv_iconst hx hb d hv (k p L e s m args below meth c C K H locs ls hR hS hL)
theorem jx_bipush {n : Int} {v : Int32} (d : decode y.2.1 pc = .ok (.bipush n, 2)) (hv : (Int8.ofInt n).toInt32 = v) (k : jx_V y hh G R Q (pc + 2) l (.int v :: st) M sz kc ks) : jx_V y hh G R Q (pc) l (st) M sz kc ks := by
  intro p L e s m args below meth c C K H locs ls hR hS hL
  obtain ⟨hx, hb, hr, hml, hown, hts, hlk, hnm, hex, hst⟩ := id C
  exact lv_bipush hx hb d hv (k p L e s m args below meth c C K H locs ls hR hS hL)
theorem jx_sipush {n : Int} {v : Int32} (d : decode y.2.1 pc = .ok (.sipush n, 3)) (hv : (Int16.ofInt n).toInt32 = v) (k : jx_V y hh G R Q (pc + 3) l (.int v :: st) M sz kc ks) : jx_V y hh G R Q (pc) l (st) M sz kc ks := by
  intro p L e s m args below meth c C K H locs ls hR hS hL
  obtain ⟨hx, hb, hr, hml, hown, hts, hlk, hnm, hex, hst⟩ := id C
  exact lv_sipush hx hb d hv (k p L e s m args below meth c C K H locs ls hR hS hL)
theorem jx_lconst {n : Fin 2} {v : Int64} (d : decode y.2.1 pc = .ok (.lconst n, 1)) (hv : Int64.ofNat (n : Nat) = v) (k : jx_V y hh G R Q (pc + 1) l (.long v :: st) M sz kc ks) : jx_V y hh G R Q (pc) l (st) M sz kc ks := by
  intro p L e s m args below meth c C K H locs ls hR hS hL
  obtain ⟨hx, hb, hr, hml, hown, hts, hlk, hnm, hex, hst⟩ := id C
  exact lv_lconst hx hb d hv (k p L e s m args below meth c C K H locs ls hR hS hL)
theorem jx_ldc {own : String} {index : Nat} {v : Int32} (d : decode y.2.1 pc = .ok (.ldc index, 2)) (ho : y.1.cls = own) (hc : Jvm.Cond.constant own index v ∈ jx_tb) (k : jx_V y hh G R Q (pc + 2) l (.int v :: st) M sz kc ks) : jx_V y hh G R Q (pc) l (st) M sz kc ks := by
  intro p L e s m args below meth c C K H locs ls hR hS hL
  obtain ⟨hx, hb, hr, hml, hown, hts, hlk, hnm, hex, hst⟩ := id C
  exact lv_ldc (own := own) hx hb (by rw [← ho]; exact hown) (hts _ hc) d (k p L e s m args below meth c C K H locs ls hR hS hL)
theorem jx_ldcw {own : String} {index : Nat} {v : Int32} (d : decode y.2.1 pc = .ok (.ldc_w index, 3)) (ho : y.1.cls = own) (hc : Jvm.Cond.constant own index v ∈ jx_tb) (k : jx_V y hh G R Q (pc + 3) l (.int v :: st) M sz kc ks) : jx_V y hh G R Q (pc) l (st) M sz kc ks := by
  intro p L e s m args below meth c C K H locs ls hR hS hL
  obtain ⟨hx, hb, hr, hml, hown, hts, hlk, hnm, hex, hst⟩ := id C
  exact lv_ldcw (own := own) hx hb (by rw [← ho]; exact hown) (hts _ hc) d (k p L e s m args below meth c C K H locs ls hR hS hL)
theorem jx_ldc2 {own : String} {index : Nat} {v : Int64} (d : decode y.2.1 pc = .ok (.ldc2_w index, 3)) (ho : y.1.cls = own) (hc : Jvm.Cond.constantLong own index v ∈ jx_tb) (k : jx_V y hh G R Q (pc + 3) l (.long v :: st) M sz kc ks) : jx_V y hh G R Q (pc) l (st) M sz kc ks := by
  intro p L e s m args below meth c C K H locs ls hR hS hL
  obtain ⟨hx, hb, hr, hml, hown, hts, hlk, hnm, hex, hst⟩ := id C
  exact lv_ldc2 (own := own) hx hb (by rw [← ho]; exact hown) (hts _ hc) d (k p L e s m args below meth c C K H locs ls hR hS hL)
theorem jx_iload_n {j : Fin 4} {i : Nat} {x : Int32} (d : decode y.2.1 pc = .ok (.iload_n j, 1)) (hi : (j : Nat) = i) (hl : l[i]? = some (some (.int x))) (k : jx_V y hh G R Q (pc + 1) l (.int x :: st) M sz kc ks) : jx_V y hh G R Q (pc) l (st) M sz kc ks := by
  intro p L e s m args below meth c C K H locs ls hR hS hL
  obtain ⟨hx, hb, hr, hml, hown, hts, hlk, hnm, hex, hst⟩ := id C
  exact lv_iload_n hx hb d hi (hL.2.2 i _ hl) (k p L e s m args below meth c C K H locs ls hR hS hL)
theorem jx_iload {i : Nat} {x : Int32} (d : decode y.2.1 pc = .ok (.iload i, 2)) (hl : l[i]? = some (some (.int x))) (k : jx_V y hh G R Q (pc + 2) l (.int x :: st) M sz kc ks) : jx_V y hh G R Q (pc) l (st) M sz kc ks := by
  intro p L e s m args below meth c C K H locs ls hR hS hL
  obtain ⟨hx, hb, hr, hml, hown, hts, hlk, hnm, hex, hst⟩ := id C
  exact lv_iload hx hb d (hL.2.2 i _ hl) (k p L e s m args below meth c C K H locs ls hR hS hL)
theorem jx_lload_n {j : Fin 4} {i : Nat} {x : Int64} (d : decode y.2.1 pc = .ok (.lload_n j, 1)) (hi : (j : Nat) = i) (hl : l[i]? = some (some (.long x))) (k : jx_V y hh G R Q (pc + 1) l (.long x :: st) M sz kc ks) : jx_V y hh G R Q (pc) l (st) M sz kc ks := by
  intro p L e s m args below meth c C K H locs ls hR hS hL
  obtain ⟨hx, hb, hr, hml, hown, hts, hlk, hnm, hex, hst⟩ := id C
  exact lv_lload_n hx hb d hi (hL.2.2 i _ hl) (k p L e s m args below meth c C K H locs ls hR hS hL)
theorem jx_lload {i : Nat} {x : Int64} (d : decode y.2.1 pc = .ok (.lload i, 2)) (hl : l[i]? = some (some (.long x))) (k : jx_V y hh G R Q (pc + 2) l (.long x :: st) M sz kc ks) : jx_V y hh G R Q (pc) l (st) M sz kc ks := by
  intro p L e s m args below meth c C K H locs ls hR hS hL
  obtain ⟨hx, hb, hr, hml, hown, hts, hlk, hnm, hex, hst⟩ := id C
  exact lv_lload hx hb d (hL.2.2 i _ hl) (k p L e s m args below meth c C K H locs ls hR hS hL)
theorem jx_aload_n {j : Fin 4} {i : Nat} {x : Nat} (d : decode y.2.1 pc = .ok (.aload_n j, 1)) (hi : (j : Nat) = i) (hl : l[i]? = some (some (.ref x))) (k : jx_V y hh G R Q (pc + 1) l (.ref x :: st) M sz kc ks) : jx_V y hh G R Q (pc) l (st) M sz kc ks := by
  intro p L e s m args below meth c C K H locs ls hR hS hL
  obtain ⟨hx, hb, hr, hml, hown, hts, hlk, hnm, hex, hst⟩ := id C
  exact lv_aload_n hx hb d hi (hL.2.2 i _ hl) (k p L e s m args below meth c C K H locs ls hR hS hL)
theorem jx_aload {i : Nat} {x : Nat} (d : decode y.2.1 pc = .ok (.aload i, 2)) (hl : l[i]? = some (some (.ref x))) (k : jx_V y hh G R Q (pc + 2) l (.ref x :: st) M sz kc ks) : jx_V y hh G R Q (pc) l (st) M sz kc ks := by
  intro p L e s m args below meth c C K H locs ls hR hS hL
  obtain ⟨hx, hb, hr, hml, hown, hts, hlk, hnm, hex, hst⟩ := id C
  exact lv_aload hx hb d (hL.2.2 i _ hl) (k p L e s m args below meth c C K H locs ls hR hS hL)
theorem jx_iadd {x z : Int32} (d : decode y.2.1 pc = .ok (.iadd, 1)) (k : jx_V y hh G R Q (pc + 1) l (.int (x + z) :: st) M sz kc ks) : jx_V y hh G R Q (pc) l (.int z :: .int x :: st) M sz kc ks := by
  intro p L e s m args below meth c C K H locs ls hR hS hL
  obtain ⟨hx, hb, hr, hml, hown, hts, hlk, hnm, hex, hst⟩ := id C
  exact lv_iadd hx hb d (k p L e s m args below meth c C K H locs ls hR hS hL)
theorem jx_isub {x z : Int32} (d : decode y.2.1 pc = .ok (.isub, 1)) (k : jx_V y hh G R Q (pc + 1) l (.int (x - z) :: st) M sz kc ks) : jx_V y hh G R Q (pc) l (.int z :: .int x :: st) M sz kc ks := by
  intro p L e s m args below meth c C K H locs ls hR hS hL
  obtain ⟨hx, hb, hr, hml, hown, hts, hlk, hnm, hex, hst⟩ := id C
  exact lv_isub hx hb d (k p L e s m args below meth c C K H locs ls hR hS hL)
theorem jx_imul {x z : Int32} (d : decode y.2.1 pc = .ok (.imul, 1)) (k : jx_V y hh G R Q (pc + 1) l (.int (x * z) :: st) M sz kc ks) : jx_V y hh G R Q (pc) l (.int z :: .int x :: st) M sz kc ks := by
  intro p L e s m args below meth c C K H locs ls hR hS hL
  obtain ⟨hx, hb, hr, hml, hown, hts, hlk, hnm, hex, hst⟩ := id C
  exact lv_imul hx hb d (k p L e s m args below meth c C K H locs ls hR hS hL)
theorem jx_iand {x z : Int32} (d : decode y.2.1 pc = .ok (.iand, 1)) (k : jx_V y hh G R Q (pc + 1) l (.int (x &&& z) :: st) M sz kc ks) : jx_V y hh G R Q (pc) l (.int z :: .int x :: st) M sz kc ks := by
  intro p L e s m args below meth c C K H locs ls hR hS hL
  obtain ⟨hx, hb, hr, hml, hown, hts, hlk, hnm, hex, hst⟩ := id C
  exact lv_iand hx hb d (k p L e s m args below meth c C K H locs ls hR hS hL)
theorem jx_ior {x z : Int32} (d : decode y.2.1 pc = .ok (.ior, 1)) (k : jx_V y hh G R Q (pc + 1) l (.int (x ||| z) :: st) M sz kc ks) : jx_V y hh G R Q (pc) l (.int z :: .int x :: st) M sz kc ks := by
  intro p L e s m args below meth c C K H locs ls hR hS hL
  obtain ⟨hx, hb, hr, hml, hown, hts, hlk, hnm, hex, hst⟩ := id C
  exact lv_ior hx hb d (k p L e s m args below meth c C K H locs ls hR hS hL)
theorem jx_ixor {x z : Int32} (d : decode y.2.1 pc = .ok (.ixor, 1)) (k : jx_V y hh G R Q (pc + 1) l (.int (x ^^^ z) :: st) M sz kc ks) : jx_V y hh G R Q (pc) l (.int z :: .int x :: st) M sz kc ks := by
  intro p L e s m args below meth c C K H locs ls hR hS hL
  obtain ⟨hx, hb, hr, hml, hown, hts, hlk, hnm, hex, hst⟩ := id C
  exact lv_ixor hx hb d (k p L e s m args below meth c C K H locs ls hR hS hL)
theorem jx_ladd {x z : Int64} (d : decode y.2.1 pc = .ok (.ladd, 1)) (k : jx_V y hh G R Q (pc + 1) l (.long (x + z) :: st) M sz kc ks) : jx_V y hh G R Q (pc) l (.long z :: .long x :: st) M sz kc ks := by
  intro p L e s m args below meth c C K H locs ls hR hS hL
  obtain ⟨hx, hb, hr, hml, hown, hts, hlk, hnm, hex, hst⟩ := id C
  exact lv_ladd hx hb d (k p L e s m args below meth c C K H locs ls hR hS hL)
theorem jx_lsub {x z : Int64} (d : decode y.2.1 pc = .ok (.lsub, 1)) (k : jx_V y hh G R Q (pc + 1) l (.long (x - z) :: st) M sz kc ks) : jx_V y hh G R Q (pc) l (.long z :: .long x :: st) M sz kc ks := by
  intro p L e s m args below meth c C K H locs ls hR hS hL
  obtain ⟨hx, hb, hr, hml, hown, hts, hlk, hnm, hex, hst⟩ := id C
  exact lv_lsub hx hb d (k p L e s m args below meth c C K H locs ls hR hS hL)
theorem jx_lmul {x z : Int64} (d : decode y.2.1 pc = .ok (.lmul, 1)) (k : jx_V y hh G R Q (pc + 1) l (.long (x * z) :: st) M sz kc ks) : jx_V y hh G R Q (pc) l (.long z :: .long x :: st) M sz kc ks := by
  intro p L e s m args below meth c C K H locs ls hR hS hL
  obtain ⟨hx, hb, hr, hml, hown, hts, hlk, hnm, hex, hst⟩ := id C
  exact lv_lmul hx hb d (k p L e s m args below meth c C K H locs ls hR hS hL)
theorem jx_land {x z : Int64} (d : decode y.2.1 pc = .ok (.land, 1)) (k : jx_V y hh G R Q (pc + 1) l (.long (x &&& z) :: st) M sz kc ks) : jx_V y hh G R Q (pc) l (.long z :: .long x :: st) M sz kc ks := by
  intro p L e s m args below meth c C K H locs ls hR hS hL
  obtain ⟨hx, hb, hr, hml, hown, hts, hlk, hnm, hex, hst⟩ := id C
  exact lv_land hx hb d (k p L e s m args below meth c C K H locs ls hR hS hL)
theorem jx_lor {x z : Int64} (d : decode y.2.1 pc = .ok (.lor, 1)) (k : jx_V y hh G R Q (pc + 1) l (.long (x ||| z) :: st) M sz kc ks) : jx_V y hh G R Q (pc) l (.long z :: .long x :: st) M sz kc ks := by
  intro p L e s m args below meth c C K H locs ls hR hS hL
  obtain ⟨hx, hb, hr, hml, hown, hts, hlk, hnm, hex, hst⟩ := id C
  exact lv_lor hx hb d (k p L e s m args below meth c C K H locs ls hR hS hL)
theorem jx_lxor {x z : Int64} (d : decode y.2.1 pc = .ok (.lxor, 1)) (k : jx_V y hh G R Q (pc + 1) l (.long (x ^^^ z) :: st) M sz kc ks) : jx_V y hh G R Q (pc) l (.long z :: .long x :: st) M sz kc ks := by
  intro p L e s m args below meth c C K H locs ls hR hS hL
  obtain ⟨hx, hb, hr, hml, hown, hts, hlk, hnm, hex, hst⟩ := id C
  exact lv_lxor hx hb d (k p L e s m args below meth c C K H locs ls hR hS hL)
theorem jx_idiv {x z : Int32} (d : decode y.2.1 pc = .ok (.idiv, 1)) (hne : ¬ z = 0) (k : jx_V y hh G R Q (pc + 1) l (.int (x / z) :: st) M sz kc ks) : jx_V y hh G R Q (pc) l (.int z :: .int x :: st) M sz kc ks := by
  intro p L e s m args below meth c C K H locs ls hR hS hL
  obtain ⟨hx, hb, hr, hml, hown, hts, hlk, hnm, hex, hst⟩ := id C
  exact lv_idiv hx hb d hne (k p L e s m args below meth c C K H locs ls hR hS hL)
theorem jx_irem {x z : Int32} (d : decode y.2.1 pc = .ok (.irem, 1)) (hne : ¬ z = 0) (k : jx_V y hh G R Q (pc + 1) l (.int (x - x / z * z) :: st) M sz kc ks) : jx_V y hh G R Q (pc) l (.int z :: .int x :: st) M sz kc ks := by
  intro p L e s m args below meth c C K H locs ls hR hS hL
  obtain ⟨hx, hb, hr, hml, hown, hts, hlk, hnm, hex, hst⟩ := id C
  exact lv_irem hx hb d hne (k p L e s m args below meth c C K H locs ls hR hS hL)
theorem jx_ldiv {x z : Int64} (d : decode y.2.1 pc = .ok (.ldiv, 1)) (hne : ¬ z = 0) (k : jx_V y hh G R Q (pc + 1) l (.long (x / z) :: st) M sz kc ks) : jx_V y hh G R Q (pc) l (.long z :: .long x :: st) M sz kc ks := by
  intro p L e s m args below meth c C K H locs ls hR hS hL
  obtain ⟨hx, hb, hr, hml, hown, hts, hlk, hnm, hex, hst⟩ := id C
  exact lv_ldiv hx hb d hne (k p L e s m args below meth c C K H locs ls hR hS hL)
theorem jx_lrem {x z : Int64} (d : decode y.2.1 pc = .ok (.lrem, 1)) (hne : ¬ z = 0) (k : jx_V y hh G R Q (pc + 1) l (.long (x - x / z * z) :: st) M sz kc ks) : jx_V y hh G R Q (pc) l (.long z :: .long x :: st) M sz kc ks := by
  intro p L e s m args below meth c C K H locs ls hR hS hL
  obtain ⟨hx, hb, hr, hml, hown, hts, hlk, hnm, hex, hst⟩ := id C
  exact lv_lrem hx hb d hne (k p L e s m args below meth c C K H locs ls hR hS hL)
theorem jx_ineg {x : Int32} (d : decode y.2.1 pc = .ok (.ineg, 1)) (k : jx_V y hh G R Q (pc + 1) l (.int (-x) :: st) M sz kc ks) : jx_V y hh G R Q (pc) l (.int x :: st) M sz kc ks := by
  intro p L e s m args below meth c C K H locs ls hR hS hL
  obtain ⟨hx, hb, hr, hml, hown, hts, hlk, hnm, hex, hst⟩ := id C
  exact lv_ineg hx hb d (k p L e s m args below meth c C K H locs ls hR hS hL)
theorem jx_lneg {x : Int64} (d : decode y.2.1 pc = .ok (.lneg, 1)) (k : jx_V y hh G R Q (pc + 1) l (.long (-x) :: st) M sz kc ks) : jx_V y hh G R Q (pc) l (.long x :: st) M sz kc ks := by
  intro p L e s m args below meth c C K H locs ls hR hS hL
  obtain ⟨hx, hb, hr, hml, hown, hts, hlk, hnm, hex, hst⟩ := id C
  exact lv_lneg hx hb d (k p L e s m args below meth c C K H locs ls hR hS hL)
theorem jx_ishl {x z : Int32} (d : decode y.2.1 pc = .ok (.ishl, 1)) (k : jx_V y hh G R Q (pc + 1) l (.int (x <<< (z &&& 31)) :: st) M sz kc ks) : jx_V y hh G R Q (pc) l (.int z :: .int x :: st) M sz kc ks := by
  intro p L e s m args below meth c C K H locs ls hR hS hL
  obtain ⟨hx, hb, hr, hml, hown, hts, hlk, hnm, hex, hst⟩ := id C
  exact lv_ishl hx hb d (k p L e s m args below meth c C K H locs ls hR hS hL)
theorem jx_ishr {x z : Int32} (d : decode y.2.1 pc = .ok (.ishr, 1)) (k : jx_V y hh G R Q (pc + 1) l (.int (x >>> (z &&& 31)) :: st) M sz kc ks) : jx_V y hh G R Q (pc) l (.int z :: .int x :: st) M sz kc ks := by
  intro p L e s m args below meth c C K H locs ls hR hS hL
  obtain ⟨hx, hb, hr, hml, hown, hts, hlk, hnm, hex, hst⟩ := id C
  exact lv_ishr hx hb d (k p L e s m args below meth c C K H locs ls hR hS hL)
theorem jx_i2l {x : Int32} (d : decode y.2.1 pc = .ok (.i2l, 1)) (k : jx_V y hh G R Q (pc + 1) l (.long x.toInt64 :: st) M sz kc ks) : jx_V y hh G R Q (pc) l (.int x :: st) M sz kc ks := by
  intro p L e s m args below meth c C K H locs ls hR hS hL
  obtain ⟨hx, hb, hr, hml, hown, hts, hlk, hnm, hex, hst⟩ := id C
  exact lv_i2l hx hb d rfl (k p L e s m args below meth c C K H locs ls hR hS hL)
theorem jx_l2i {x : Int64} (d : decode y.2.1 pc = .ok (.l2i, 1)) (k : jx_V y hh G R Q (pc + 1) l (.int x.toInt32 :: st) M sz kc ks) : jx_V y hh G R Q (pc) l (.long x :: st) M sz kc ks := by
  intro p L e s m args below meth c C K H locs ls hR hS hL
  obtain ⟨hx, hb, hr, hml, hown, hts, hlk, hnm, hex, hst⟩ := id C
  exact lv_l2i hx hb d rfl (k p L e s m args below meth c C K H locs ls hR hS hL)
theorem jx_lshl {x : Int64} {z : Int32} (d : decode y.2.1 pc = .ok (.lshl, 1)) (k : jx_V y hh G R Q (pc + 1) l (.long (x <<< (z.toInt64 &&& 63)) :: st) M sz kc ks) : jx_V y hh G R Q (pc) l (.int z :: .long x :: st) M sz kc ks := by
  intro p L e s m args below meth c C K H locs ls hR hS hL
  obtain ⟨hx, hb, hr, hml, hown, hts, hlk, hnm, hex, hst⟩ := id C
  exact lv_lshl hx hb d rfl (k p L e s m args below meth c C K H locs ls hR hS hL)
theorem jx_lshr {x : Int64} {z : Int32} (d : decode y.2.1 pc = .ok (.lshr, 1)) (k : jx_V y hh G R Q (pc + 1) l (.long (x >>> (z.toInt64 &&& 63)) :: st) M sz kc ks) : jx_V y hh G R Q (pc) l (.int z :: .long x :: st) M sz kc ks := by
  intro p L e s m args below meth c C K H locs ls hR hS hL
  obtain ⟨hx, hb, hr, hml, hown, hts, hlk, hnm, hex, hst⟩ := id C
  exact lv_lshr hx hb d rfl (k p L e s m args below meth c C K H locs ls hR hS hL)
theorem jx_lcmp {x z : Int64} (d : decode y.2.1 pc = .ok (.lcmp, 1)) (k : jx_V y hh G R Q (pc + 1) l (.int (lg_cmp x z) :: st) M sz kc ks) : jx_V y hh G R Q (pc) l (.long z :: .long x :: st) M sz kc ks := by
  intro p L e s m args below meth c C K H locs ls hR hS hL
  obtain ⟨hx, hb, hr, hml, hown, hts, hlk, hnm, hex, hst⟩ := id C
  exact W.lcmp hx hb d (k p L e s m args below meth c C K H locs ls hR hS hL)
theorem jx_dup2_2 {va : Value} (d : decode y.2.1 pc = .ok (.dup2, 1)) (hc : va.category = 2) (k : jx_V y hh G R Q (pc + 1) l (va :: va :: st) M sz kc ks) : jx_V y hh G R Q (pc) l (va :: st) M sz kc ks := by
  intro p L e s m args below meth c C K H locs ls hR hS hL
  obtain ⟨hx, hb, hr, hml, hown, hts, hlk, hnm, hex, hst⟩ := id C
  exact lv_dup2_2 hx hb d hc (k p L e s m args below meth c C K H locs ls hR hS hL)
theorem jx_dup2_11 {va vb : Value} (d : decode y.2.1 pc = .ok (.dup2, 1)) (hc : va.category = 1) (hc2 : vb.category = 1) (k : jx_V y hh G R Q (pc + 1) l (va :: vb :: va :: vb :: st) M sz kc ks) : jx_V y hh G R Q (pc) l (va :: vb :: st) M sz kc ks := by
  intro p L e s m args below meth c C K H locs ls hR hS hL
  obtain ⟨hx, hb, hr, hml, hown, hts, hlk, hnm, hex, hst⟩ := id C
  exact lv_dup2_11 hx hb d hc hc2 (k p L e s m args below meth c C K H locs ls hR hS hL)
theorem jx_dup_x1 {va vb : Value} (d : decode y.2.1 pc = .ok (.dup_x1, 1)) (hc : va.category = 1) (hc2 : vb.category = 1) (k : jx_V y hh G R Q (pc + 1) l (va :: vb :: va :: st) M sz kc ks) : jx_V y hh G R Q (pc) l (va :: vb :: st) M sz kc ks := by
  intro p L e s m args below meth c C K H locs ls hR hS hL
  obtain ⟨hx, hb, hr, hml, hown, hts, hlk, hnm, hex, hst⟩ := id C
  exact lv_dup_x1 hx hb d hc hc2 (k p L e s m args below meth c C K H locs ls hR hS hL)
theorem jx_dup_x2 {va vb vc : Value} (d : decode y.2.1 pc = .ok (.dup_x2, 1)) (hc : va.category = 1) (hc2 : vb.category = 1) (hc3 : vc.category = 1) (k : jx_V y hh G R Q (pc + 1) l (va :: vb :: vc :: va :: st) M sz kc ks) : jx_V y hh G R Q (pc) l (va :: vb :: vc :: st) M sz kc ks := by
  intro p L e s m args below meth c C K H locs ls hR hS hL
  obtain ⟨hx, hb, hr, hml, hown, hts, hlk, hnm, hex, hst⟩ := id C
  exact lv_dup_x2 hx hb d hc hc2 hc3 (k p L e s m args below meth c C K H locs ls hR hS hL)
theorem jx_pop2_2 {va : Value} (d : decode y.2.1 pc = .ok (.pop2, 1)) (hc : va.category = 2) (k : jx_V y hh G R Q (pc + 1) l (st) M sz kc ks) : jx_V y hh G R Q (pc) l (va :: st) M sz kc ks := by
  intro p L e s m args below meth c C K H locs ls hR hS hL
  obtain ⟨hx, hb, hr, hml, hown, hts, hlk, hnm, hex, hst⟩ := id C
  exact lv_pop2_2 hx hb d hc (k p L e s m args below meth c C K H locs ls hR hS hL)
theorem jx_dup {va : Value} (d : decode y.2.1 pc = .ok (.dup, 1)) (hc : va.category = 1) (k : jx_V y hh G R Q (pc + 1) l (va :: va :: st) M sz kc ks) : jx_V y hh G R Q (pc) l (va :: st) M sz kc ks := by
  intro p L e s m args below meth c C K H locs ls hR hS hL
  obtain ⟨hx, hb, hr, hml, hown, hts, hlk, hnm, hex, hst⟩ := id C
  exact lv_dup hx hb d hc (k p L e s m args below meth c C K H locs ls hR hS hL)
theorem jx_pop {va : Value} (d : decode y.2.1 pc = .ok (.pop, 1)) (hc : va.category = 1) (k : jx_V y hh G R Q (pc + 1) l (st) M sz kc ks) : jx_V y hh G R Q (pc) l (va :: st) M sz kc ks := by
  intro p L e s m args below meth c C K H locs ls hR hS hL
  obtain ⟨hx, hb, hr, hml, hown, hts, hlk, hnm, hex, hst⟩ := id C
  exact lv_pop hx hb d hc (k p L e s m args below meth c C K H locs ls hR hS hL)
theorem jx_istore_n {j : Fin 4} {i : Nat} {x : Int32} {l' : List (Option Value)} (d : decode y.2.1 pc = .ok (.istore_n j, 1)) (hi : (j : Nat) = i) (hn : i < y.2.2.1) (hl : jx_st1 l i (.int x) l') (k : jx_V y hh G R Q (pc + 1) l' (st) M sz kc ks) : jx_V y hh G R Q (pc) l (.int x :: st) M sz kc ks := by
  intro p L e s m args below meth c C K H locs ls hR hS hL
  obtain ⟨hx, hb, hr, hml, hown, hts, hlk, hnm, hex, hst⟩ := id C
  exact lv_istore_n hx hb d hi hL.has hn rfl (fun ls' h' => k p L e s m args below meth c C K H locs ls' hR hS (jx_st1_ok h' hl))
theorem jx_istore {i : Nat} {x : Int32} {l' : List (Option Value)} (d : decode y.2.1 pc = .ok (.istore i, 2)) (hn : i < y.2.2.1) (hl : jx_st1 l i (.int x) l') (k : jx_V y hh G R Q (pc + 2) l' (st) M sz kc ks) : jx_V y hh G R Q (pc) l (.int x :: st) M sz kc ks := by
  intro p L e s m args below meth c C K H locs ls hR hS hL
  obtain ⟨hx, hb, hr, hml, hown, hts, hlk, hnm, hex, hst⟩ := id C
  exact lv_istore hx hb d hL.has hn rfl (fun ls' h' => k p L e s m args below meth c C K H locs ls' hR hS (jx_st1_ok h' hl))
theorem jx_lstore_n {j : Fin 4} {i : Nat} {x : Int64} {l' : List (Option Value)} (d : decode y.2.1 pc = .ok (.lstore_n j, 1)) (hi : (j : Nat) = i) (hn : i + 1 < y.2.2.1) (hl : jx_st2 l i (.long x) l') (k : jx_V y hh G R Q (pc + 1) l' (st) M sz kc ks) : jx_V y hh G R Q (pc) l (.long x :: st) M sz kc ks := by
  intro p L e s m args below meth c C K H locs ls hR hS hL
  obtain ⟨hx, hb, hr, hml, hown, hts, hlk, hnm, hex, hst⟩ := id C
  exact lv_lstore_n hx hb d hi hL.has hn rfl (fun ls' h' => k p L e s m args below meth c C K H locs ls' hR hS (jx_st2_ok h' hl))
theorem jx_lstore {i : Nat} {x : Int64} {l' : List (Option Value)} (d : decode y.2.1 pc = .ok (.lstore i, 2)) (hn : i + 1 < y.2.2.1) (hl : jx_st2 l i (.long x) l') (k : jx_V y hh G R Q (pc + 2) l' (st) M sz kc ks) : jx_V y hh G R Q (pc) l (.long x :: st) M sz kc ks := by
  intro p L e s m args below meth c C K H locs ls hR hS hL
  obtain ⟨hx, hb, hr, hml, hown, hts, hlk, hnm, hex, hst⟩ := id C
  exact lv_lstore hx hb d hL.has hn rfl (fun ls' h' => k p L e s m args below meth c C K H locs ls' hR hS (jx_st2_ok h' hl))
theorem jx_astore_n {j : Fin 4} {i : Nat} {x : Nat} {l' : List (Option Value)} (d : decode y.2.1 pc = .ok (.astore_n j, 1)) (hi : (j : Nat) = i) (hn : i < y.2.2.1) (hl : jx_st1 l i (.ref x) l') (k : jx_V y hh G R Q (pc + 1) l' (st) M sz kc ks) : jx_V y hh G R Q (pc) l (.ref x :: st) M sz kc ks := by
  intro p L e s m args below meth c C K H locs ls hR hS hL
  obtain ⟨hx, hb, hr, hml, hown, hts, hlk, hnm, hex, hst⟩ := id C
  exact lv_astore_n hx hb d hi hL.has hn rfl (fun ls' h' => k p L e s m args below meth c C K H locs ls' hR hS (jx_st1_ok h' hl))
theorem jx_astore {i : Nat} {x : Nat} {l' : List (Option Value)} (d : decode y.2.1 pc = .ok (.astore i, 2)) (hn : i < y.2.2.1) (hl : jx_st1 l i (.ref x) l') (k : jx_V y hh G R Q (pc + 2) l' (st) M sz kc ks) : jx_V y hh G R Q (pc) l (.ref x :: st) M sz kc ks := by
  intro p L e s m args below meth c C K H locs ls hR hS hL
  obtain ⟨hx, hb, hr, hml, hown, hts, hlk, hnm, hex, hst⟩ := id C
  exact lv_astore hx hb d hL.has hn rfl (fun ls' h' => k p L e s m args below meth c C K H locs ls' hR hS (jx_st1_ok h' hl))
theorem jx_iincX {i : Nat} {n : Int} {x v : Int32} {l' : List (Option Value)} (d : decode y.2.1 pc = .ok (.iinc i n, 3)) (hv : l[i]? = some (some (.int x))) (hx2 : x + Int32.ofInt n = v) (hn : i < y.2.2.1) (hl : jx_st1 l i (.int v) l') (k : jx_V y hh G R Q (pc + 3) l' (st) M sz kc ks) : jx_V y hh G R Q (pc) l (st) M sz kc ks := by
  intro p L e s m args below meth c C K H locs ls hR hS hL
  obtain ⟨hx, hb, hr, hml, hown, hts, hlk, hnm, hex, hst⟩ := id C
  obtain ⟨q, hq⟩ := List.getElem?_of_mem ((jx_pr_mem l 0 i (.int x)).mpr ⟨Nat.zero_le _, by simpa using hv⟩)
  exact lv_iinc hx hb d hL.has hq hx2 hn rfl (fun ls' h' => k p L e s m args below meth c C K H locs ls' hR hS (jx_st1_ok h' hl))
theorem jx_iinc {i : Nat} {x : Int32} {l' : List (Option Value)} (d : decode y.2.1 pc = .ok (.iinc i 1, 3)) (hv : l[i]? = some (some (.int x))) (hn : i < y.2.2.1) (hl : jx_st1 l i (.int (x + 1)) l') (k : jx_V y hh G R Q (pc + 3) l' (st) M sz kc ks) : jx_V y hh G R Q (pc) l (st) M sz kc ks := jx_iincX d hv rfl hn hl k
theorem jx_iincM {i : Nat} {x : Int32} {l' : List (Option Value)} (d : decode y.2.1 pc = .ok (.iinc i (-1), 3)) (hv : l[i]? = some (some (.int x))) (hn : i < y.2.2.1) (hl : jx_st1 l i (.int (x + (-1))) l') (k : jx_V y hh G R Q (pc + 3) l' (st) M sz kc ks) : jx_V y hh G R Q (pc) l (st) M sz kc ks := jx_iincX d hv rfl hn hl k
theorem jx_if_eq {x : Int32} {off : Int} {tgt : Nat} (d : decode y.2.1 pc = .ok (.ifCond .eq off, 3)) (ht : (pc : Int) + off = (tgt : Int)) (kt : x = 0 → jx_V y hh G R Q (tgt) l (st) M sz kc ks) (kf : ¬ x = 0 → jx_V y hh G R Q (pc + 3) l (st) M sz kc ks) : jx_V y hh G R Q (pc) l (.int x :: st) M sz kc ks := by
  intro p L e s m args below meth c C K H locs ls hR hS hL
  obtain ⟨hx, hb, hr, hml, hown, hts, hlk, hnm, hex, hst⟩ := id C
  exact lv_if_eq hx hb d ht (fun q => kt q p L e s m args below meth c C K H locs ls hR hS hL) (fun q => kf q p L e s m args below meth c C K H locs ls hR hS hL)
theorem jx_icmp_eq {x z : Int32} {off : Int} {tgt : Nat} (d : decode y.2.1 pc = .ok (.if_icmp .eq off, 3)) (ht : (pc : Int) + off = (tgt : Int)) (kt : x = z → jx_V y hh G R Q (tgt) l (st) M sz kc ks) (kf : ¬ x = z → jx_V y hh G R Q (pc + 3) l (st) M sz kc ks) : jx_V y hh G R Q (pc) l (.int z :: .int x :: st) M sz kc ks := by
  intro p L e s m args below meth c C K H locs ls hR hS hL
  obtain ⟨hx, hb, hr, hml, hown, hts, hlk, hnm, hex, hst⟩ := id C
  exact lv_icmp_eq hx hb d ht (fun q => kt q p L e s m args below meth c C K H locs ls hR hS hL) (fun q => kf q p L e s m args below meth c C K H locs ls hR hS hL)
theorem jx_if_ne {x : Int32} {off : Int} {tgt : Nat} (d : decode y.2.1 pc = .ok (.ifCond .ne off, 3)) (ht : (pc : Int) + off = (tgt : Int)) (kt : ¬ x = 0 → jx_V y hh G R Q (tgt) l (st) M sz kc ks) (kf : x = 0 → jx_V y hh G R Q (pc + 3) l (st) M sz kc ks) : jx_V y hh G R Q (pc) l (.int x :: st) M sz kc ks := by
  intro p L e s m args below meth c C K H locs ls hR hS hL
  obtain ⟨hx, hb, hr, hml, hown, hts, hlk, hnm, hex, hst⟩ := id C
  exact lv_if_ne hx hb d ht (fun q => kt q p L e s m args below meth c C K H locs ls hR hS hL) (fun q => kf q p L e s m args below meth c C K H locs ls hR hS hL)
theorem jx_icmp_ne {x z : Int32} {off : Int} {tgt : Nat} (d : decode y.2.1 pc = .ok (.if_icmp .ne off, 3)) (ht : (pc : Int) + off = (tgt : Int)) (kt : ¬ x = z → jx_V y hh G R Q (tgt) l (st) M sz kc ks) (kf : x = z → jx_V y hh G R Q (pc + 3) l (st) M sz kc ks) : jx_V y hh G R Q (pc) l (.int z :: .int x :: st) M sz kc ks := by
  intro p L e s m args below meth c C K H locs ls hR hS hL
  obtain ⟨hx, hb, hr, hml, hown, hts, hlk, hnm, hex, hst⟩ := id C
  exact lv_icmp_ne hx hb d ht (fun q => kt q p L e s m args below meth c C K H locs ls hR hS hL) (fun q => kf q p L e s m args below meth c C K H locs ls hR hS hL)
theorem jx_if_lt {x : Int32} {off : Int} {tgt : Nat} (d : decode y.2.1 pc = .ok (.ifCond .lt off, 3)) (ht : (pc : Int) + off = (tgt : Int)) (kt : x < 0 → jx_V y hh G R Q (tgt) l (st) M sz kc ks) (kf : ¬ x < 0 → jx_V y hh G R Q (pc + 3) l (st) M sz kc ks) : jx_V y hh G R Q (pc) l (.int x :: st) M sz kc ks := by
  intro p L e s m args below meth c C K H locs ls hR hS hL
  obtain ⟨hx, hb, hr, hml, hown, hts, hlk, hnm, hex, hst⟩ := id C
  exact lv_if_lt hx hb d ht (fun q => kt q p L e s m args below meth c C K H locs ls hR hS hL) (fun q => kf q p L e s m args below meth c C K H locs ls hR hS hL)
theorem jx_icmp_lt {x z : Int32} {off : Int} {tgt : Nat} (d : decode y.2.1 pc = .ok (.if_icmp .lt off, 3)) (ht : (pc : Int) + off = (tgt : Int)) (kt : x < z → jx_V y hh G R Q (tgt) l (st) M sz kc ks) (kf : ¬ x < z → jx_V y hh G R Q (pc + 3) l (st) M sz kc ks) : jx_V y hh G R Q (pc) l (.int z :: .int x :: st) M sz kc ks := by
  intro p L e s m args below meth c C K H locs ls hR hS hL
  obtain ⟨hx, hb, hr, hml, hown, hts, hlk, hnm, hex, hst⟩ := id C
  exact lv_icmp_lt hx hb d ht (fun q => kt q p L e s m args below meth c C K H locs ls hR hS hL) (fun q => kf q p L e s m args below meth c C K H locs ls hR hS hL)
theorem jx_if_ge {x : Int32} {off : Int} {tgt : Nat} (d : decode y.2.1 pc = .ok (.ifCond .ge off, 3)) (ht : (pc : Int) + off = (tgt : Int)) (kt : 0 ≤ x → jx_V y hh G R Q (tgt) l (st) M sz kc ks) (kf : ¬ 0 ≤ x → jx_V y hh G R Q (pc + 3) l (st) M sz kc ks) : jx_V y hh G R Q (pc) l (.int x :: st) M sz kc ks := by
  intro p L e s m args below meth c C K H locs ls hR hS hL
  obtain ⟨hx, hb, hr, hml, hown, hts, hlk, hnm, hex, hst⟩ := id C
  exact lv_if_ge hx hb d ht (fun q => kt q p L e s m args below meth c C K H locs ls hR hS hL) (fun q => kf q p L e s m args below meth c C K H locs ls hR hS hL)
theorem jx_icmp_ge {x z : Int32} {off : Int} {tgt : Nat} (d : decode y.2.1 pc = .ok (.if_icmp .ge off, 3)) (ht : (pc : Int) + off = (tgt : Int)) (kt : z ≤ x → jx_V y hh G R Q (tgt) l (st) M sz kc ks) (kf : ¬ z ≤ x → jx_V y hh G R Q (pc + 3) l (st) M sz kc ks) : jx_V y hh G R Q (pc) l (.int z :: .int x :: st) M sz kc ks := by
  intro p L e s m args below meth c C K H locs ls hR hS hL
  obtain ⟨hx, hb, hr, hml, hown, hts, hlk, hnm, hex, hst⟩ := id C
  exact lv_icmp_ge hx hb d ht (fun q => kt q p L e s m args below meth c C K H locs ls hR hS hL) (fun q => kf q p L e s m args below meth c C K H locs ls hR hS hL)
theorem jx_if_gt {x : Int32} {off : Int} {tgt : Nat} (d : decode y.2.1 pc = .ok (.ifCond .gt off, 3)) (ht : (pc : Int) + off = (tgt : Int)) (kt : 0 < x → jx_V y hh G R Q (tgt) l (st) M sz kc ks) (kf : ¬ 0 < x → jx_V y hh G R Q (pc + 3) l (st) M sz kc ks) : jx_V y hh G R Q (pc) l (.int x :: st) M sz kc ks := by
  intro p L e s m args below meth c C K H locs ls hR hS hL
  obtain ⟨hx, hb, hr, hml, hown, hts, hlk, hnm, hex, hst⟩ := id C
  exact lv_if_gt hx hb d ht (fun q => kt q p L e s m args below meth c C K H locs ls hR hS hL) (fun q => kf q p L e s m args below meth c C K H locs ls hR hS hL)
theorem jx_icmp_gt {x z : Int32} {off : Int} {tgt : Nat} (d : decode y.2.1 pc = .ok (.if_icmp .gt off, 3)) (ht : (pc : Int) + off = (tgt : Int)) (kt : z < x → jx_V y hh G R Q (tgt) l (st) M sz kc ks) (kf : ¬ z < x → jx_V y hh G R Q (pc + 3) l (st) M sz kc ks) : jx_V y hh G R Q (pc) l (.int z :: .int x :: st) M sz kc ks := by
  intro p L e s m args below meth c C K H locs ls hR hS hL
  obtain ⟨hx, hb, hr, hml, hown, hts, hlk, hnm, hex, hst⟩ := id C
  exact lv_icmp_gt hx hb d ht (fun q => kt q p L e s m args below meth c C K H locs ls hR hS hL) (fun q => kf q p L e s m args below meth c C K H locs ls hR hS hL)
theorem jx_if_le {x : Int32} {off : Int} {tgt : Nat} (d : decode y.2.1 pc = .ok (.ifCond .le off, 3)) (ht : (pc : Int) + off = (tgt : Int)) (kt : x ≤ 0 → jx_V y hh G R Q (tgt) l (st) M sz kc ks) (kf : ¬ x ≤ 0 → jx_V y hh G R Q (pc + 3) l (st) M sz kc ks) : jx_V y hh G R Q (pc) l (.int x :: st) M sz kc ks := by
  intro p L e s m args below meth c C K H locs ls hR hS hL
  obtain ⟨hx, hb, hr, hml, hown, hts, hlk, hnm, hex, hst⟩ := id C
  exact lv_if_le hx hb d ht (fun q => kt q p L e s m args below meth c C K H locs ls hR hS hL) (fun q => kf q p L e s m args below meth c C K H locs ls hR hS hL)
theorem jx_icmp_le {x z : Int32} {off : Int} {tgt : Nat} (d : decode y.2.1 pc = .ok (.if_icmp .le off, 3)) (ht : (pc : Int) + off = (tgt : Int)) (kt : x ≤ z → jx_V y hh G R Q (tgt) l (st) M sz kc ks) (kf : ¬ x ≤ z → jx_V y hh G R Q (pc + 3) l (st) M sz kc ks) : jx_V y hh G R Q (pc) l (.int z :: .int x :: st) M sz kc ks := by
  intro p L e s m args below meth c C K H locs ls hR hS hL
  obtain ⟨hx, hb, hr, hml, hown, hts, hlk, hnm, hex, hst⟩ := id C
  exact lv_icmp_le hx hb d ht (fun q => kt q p L e s m args below meth c C K H locs ls hR hS hL) (fun q => kf q p L e s m args below meth c C K H locs ls hR hS hL)
theorem jx_l_eq {x z : Int64} {off : Int} {tgt : Nat} (d : decode y.2.1 pc = .ok (.lcmp, 1)) (d2 : decode y.2.1 (pc + 1) = .ok (.ifCond .eq off, 3)) (ht : ((pc + 1 : Nat) : Int) + off = (tgt : Int)) (kt : x = z → jx_V y hh G R Q (tgt) l (st) M sz kc ks) (kf : ¬ x = z → jx_V y hh G R Q (pc + 1 + 3) l (st) M sz kc ks) : jx_V y hh G R Q (pc) l (.long z :: .long x :: st) M sz kc ks :=
  jx_lcmp d (jx_if_eq d2 ht (fun q => kt ((lg_cmp_eq x z).mp q)) (fun q => kf (fun h => q ((lg_cmp_eq x z).mpr h))))
theorem jx_l_ne {x z : Int64} {off : Int} {tgt : Nat} (d : decode y.2.1 pc = .ok (.lcmp, 1)) (d2 : decode y.2.1 (pc + 1) = .ok (.ifCond .ne off, 3)) (ht : ((pc + 1 : Nat) : Int) + off = (tgt : Int)) (kt : ¬ x = z → jx_V y hh G R Q (tgt) l (st) M sz kc ks) (kf : x = z → jx_V y hh G R Q (pc + 1 + 3) l (st) M sz kc ks) : jx_V y hh G R Q (pc) l (.long z :: .long x :: st) M sz kc ks :=
  jx_lcmp d (jx_if_ne d2 ht (fun q => kt (fun h => q ((lg_cmp_eq x z).mpr h))) (fun q => kf ((lg_cmp_eq x z).mp q)))
theorem jx_l_lt {x z : Int64} {off : Int} {tgt : Nat} (d : decode y.2.1 pc = .ok (.lcmp, 1)) (d2 : decode y.2.1 (pc + 1) = .ok (.ifCond .lt off, 3)) (ht : ((pc + 1 : Nat) : Int) + off = (tgt : Int)) (kt : x < z → jx_V y hh G R Q (tgt) l (st) M sz kc ks) (kf : ¬ x < z → jx_V y hh G R Q (pc + 1 + 3) l (st) M sz kc ks) : jx_V y hh G R Q (pc) l (.long z :: .long x :: st) M sz kc ks :=
  jx_lcmp d (jx_if_lt d2 ht (fun q => kt ((lg_cmp_lt x z).mp q)) (fun q => kf (fun h => q ((lg_cmp_lt x z).mpr h))))
theorem jx_l_ge {x z : Int64} {off : Int} {tgt : Nat} (d : decode y.2.1 pc = .ok (.lcmp, 1)) (d2 : decode y.2.1 (pc + 1) = .ok (.ifCond .ge off, 3)) (ht : ((pc + 1 : Nat) : Int) + off = (tgt : Int)) (kt : z ≤ x → jx_V y hh G R Q (tgt) l (st) M sz kc ks) (kf : ¬ z ≤ x → jx_V y hh G R Q (pc + 1 + 3) l (st) M sz kc ks) : jx_V y hh G R Q (pc) l (.long z :: .long x :: st) M sz kc ks :=
  jx_lcmp d (jx_if_ge d2 ht (fun q => kt ((lg_cmp_ge x z).mp q)) (fun q => kf (fun h => q ((lg_cmp_ge x z).mpr h))))
theorem jx_l_gt {x z : Int64} {off : Int} {tgt : Nat} (d : decode y.2.1 pc = .ok (.lcmp, 1)) (d2 : decode y.2.1 (pc + 1) = .ok (.ifCond .gt off, 3)) (ht : ((pc + 1 : Nat) : Int) + off = (tgt : Int)) (kt : z < x → jx_V y hh G R Q (tgt) l (st) M sz kc ks) (kf : ¬ z < x → jx_V y hh G R Q (pc + 1 + 3) l (st) M sz kc ks) : jx_V y hh G R Q (pc) l (.long z :: .long x :: st) M sz kc ks :=
  jx_lcmp d (jx_if_gt d2 ht (fun q => kt ((lg_cmp_gt x z).mp q)) (fun q => kf (fun h => q ((lg_cmp_gt x z).mpr h))))
theorem jx_l_le {x z : Int64} {off : Int} {tgt : Nat} (d : decode y.2.1 pc = .ok (.lcmp, 1)) (d2 : decode y.2.1 (pc + 1) = .ok (.ifCond .le off, 3)) (ht : ((pc + 1 : Nat) : Int) + off = (tgt : Int)) (kt : x ≤ z → jx_V y hh G R Q (tgt) l (st) M sz kc ks) (kf : ¬ x ≤ z → jx_V y hh G R Q (pc + 1 + 3) l (st) M sz kc ks) : jx_V y hh G R Q (pc) l (.long z :: .long x :: st) M sz kc ks :=
  jx_lcmp d (jx_if_le d2 ht (fun q => kt ((lg_cmp_le x z).mp q)) (fun q => kf (fun h => q ((lg_cmp_le x z).mpr h))))
theorem jx_goto {off : Int} {tgt : Nat} (d : decode y.2.1 pc = .ok (.goto off, 3)) (ht : (pc : Int) + off = (tgt : Int)) (k : jx_V y hh G R Q (tgt) l (st) M sz kc ks) : jx_V y hh G R Q (pc) l (st) M sz kc ks := by
  intro p L e s m args below meth c C K H locs ls hR hS hL
  obtain ⟨hx, hb, hr, hml, hown, hts, hlk, hnm, hex, hst⟩ := id C
  exact lv_goto hx hb d ht (k p L e s m args below meth c C K H locs ls hR hS hL)
theorem jx_tableOut {dflt lo hi : Int} {offs : Array Int} {len : Nat} {x : Int32} {tgt : Nat} (d : decode y.2.1 pc = .ok (.tableswitch dflt lo hi offs, len)) (h : x.toInt < lo ∨ hi < x.toInt) (ht : (pc : Int) + dflt = (tgt : Int)) (k : jx_V y hh G R Q (tgt) l (st) M sz kc ks) : jx_V y hh G R Q (pc) l (.int x :: st) M sz kc ks := by
  intro p L e s m args below meth c C K H locs ls hR hS hL
  obtain ⟨hx, hb, hr, hml, hown, hts, hlk, hnm, hex, hst⟩ := id C
  exact lv_tableOut hx hb d h ht (k p L e s m args below meth c C K H locs ls hR hS hL)
theorem jx_tableIn {dflt lo hi : Int} {offs : Array Int} {len : Nat} {x : Int32} {off : Int} {tgt : Nat} (d : decode y.2.1 pc = .ok (.tableswitch dflt lo hi offs, len)) (h1 : ¬ x.toInt < lo) (h2 : ¬ hi < x.toInt) (ho : offs[(x.toInt - lo).toNat]? = some off) (ht : (pc : Int) + off = (tgt : Int)) (k : jx_V y hh G R Q (tgt) l (st) M sz kc ks) : jx_V y hh G R Q (pc) l (.int x :: st) M sz kc ks := by
  intro p L e s m args below meth c C K H locs ls hR hS hL
  obtain ⟨hx, hb, hr, hml, hown, hts, hlk, hnm, hex, hst⟩ := id C
  exact lv_tableIn hx hb d h1 h2 ho ht (k p L e s m args below meth c C K H locs ls hR hS hL)
theorem jx_lookup {dflt : Int} {ps : Array (Int × Int)} {len : Nat} {x : Int32} {off : Int} {tgt : Nat} (d : decode y.2.1 pc = .ok (.lookupswitch dflt ps, len)) (hp : (ps.toList.zip (ps.toList.drop 1)).all (fun (a, next) => a.1 < next.1) = true) (ho : Op.lookupswitch.offset ps.toList dflt x.toInt = off) (ht : (pc : Int) + off = (tgt : Int)) (k : jx_V y hh G R Q (tgt) l (st) M sz kc ks) : jx_V y hh G R Q (pc) l (.int x :: st) M sz kc ks := by
  intro p L e s m args below meth c C K H locs ls hR hS hL
  obtain ⟨hx, hb, hr, hml, hown, hts, hlk, hnm, hex, hst⟩ := id C
  exact lv_lookup hx hb d hp ho ht (k p L e s m args below meth c C K H locs ls hR hS hL)
end JX
theorem jx_e1_0 {v : Value} {a0 : Option Value} : jx_st1 [a0] 0 v [some v] := jx_st1_app [] [] trivial
theorem jx_e2_0 {v : Value} {a0 a1 : Option Value} : jx_st1 [a0, a1] 0 v [some v, a1] := jx_st1_app [] [a1] trivial
theorem jx_f2_0 {v : Value} {a0 a1 : Option Value} : jx_st2 [a0, a1] 0 v [some v, none] := jx_st2_app [] [] trivial
theorem jx_e2_1 {v : Value} {a0 a1 : Option Value} (h : jx_nl a0) : jx_st1 [a0, a1] 1 v [a0, some v] := jx_st1_app [a0] [] h
theorem jx_e3_0 {v : Value} {a0 a1 a2 : Option Value} : jx_st1 [a0, a1, a2] 0 v [some v, a1, a2] := jx_st1_app [] [a1, a2] trivial
theorem jx_f3_0 {v : Value} {a0 a1 a2 : Option Value} : jx_st2 [a0, a1, a2] 0 v [some v, none, a2] := jx_st2_app [] [a2] trivial
theorem jx_e3_1 {v : Value} {a0 a1 a2 : Option Value} (h : jx_nl a0) : jx_st1 [a0, a1, a2] 1 v [a0, some v, a2] := jx_st1_app [a0] [a2] h
theorem jx_f3_1 {v : Value} {a0 a1 a2 : Option Value} (h : jx_nl a0) : jx_st2 [a0, a1, a2] 1 v [a0, some v, none] := jx_st2_app [a0] [] h
theorem jx_e3_2 {v : Value} {a0 a1 a2 : Option Value} (h : jx_nl a1) : jx_st1 [a0, a1, a2] 2 v [a0, a1, some v] := jx_st1_app [a0, a1] [] h
theorem jx_e4_0 {v : Value} {a0 a1 a2 a3 : Option Value} : jx_st1 [a0, a1, a2, a3] 0 v [some v, a1, a2, a3] := jx_st1_app [] [a1, a2, a3] trivial
theorem jx_f4_0 {v : Value} {a0 a1 a2 a3 : Option Value} : jx_st2 [a0, a1, a2, a3] 0 v [some v, none, a2, a3] := jx_st2_app [] [a2, a3] trivial
theorem jx_e4_1 {v : Value} {a0 a1 a2 a3 : Option Value} (h : jx_nl a0) : jx_st1 [a0, a1, a2, a3] 1 v [a0, some v, a2, a3] := jx_st1_app [a0] [a2, a3] h
theorem jx_f4_1 {v : Value} {a0 a1 a2 a3 : Option Value} (h : jx_nl a0) : jx_st2 [a0, a1, a2, a3] 1 v [a0, some v, none, a3] := jx_st2_app [a0] [a3] h
theorem jx_e4_2 {v : Value} {a0 a1 a2 a3 : Option Value} (h : jx_nl a1) : jx_st1 [a0, a1, a2, a3] 2 v [a0, a1, some v, a3] := jx_st1_app [a0, a1] [a3] h
theorem jx_f4_2 {v : Value} {a0 a1 a2 a3 : Option Value} (h : jx_nl a1) : jx_st2 [a0, a1, a2, a3] 2 v [a0, a1, some v, none] := jx_st2_app [a0, a1] [] h
theorem jx_e4_3 {v : Value} {a0 a1 a2 a3 : Option Value} (h : jx_nl a2) : jx_st1 [a0, a1, a2, a3] 3 v [a0, a1, a2, some v] := jx_st1_app [a0, a1, a2] [] h
theorem jx_e5_0 {v : Value} {a0 a1 a2 a3 a4 : Option Value} : jx_st1 [a0, a1, a2, a3, a4] 0 v [some v, a1, a2, a3, a4] := jx_st1_app [] [a1, a2, a3, a4] trivial
theorem jx_f5_0 {v : Value} {a0 a1 a2 a3 a4 : Option Value} : jx_st2 [a0, a1, a2, a3, a4] 0 v [some v, none, a2, a3, a4] := jx_st2_app [] [a2, a3, a4] trivial
theorem jx_e5_1 {v : Value} {a0 a1 a2 a3 a4 : Option Value} (h : jx_nl a0) : jx_st1 [a0, a1, a2, a3, a4] 1 v [a0, some v, a2, a3, a4] := jx_st1_app [a0] [a2, a3, a4] h
theorem jx_f5_1 {v : Value} {a0 a1 a2 a3 a4 : Option Value} (h : jx_nl a0) : jx_st2 [a0, a1, a2, a3, a4] 1 v [a0, some v, none, a3, a4] := jx_st2_app [a0] [a3, a4] h
theorem jx_e5_2 {v : Value} {a0 a1 a2 a3 a4 : Option Value} (h : jx_nl a1) : jx_st1 [a0, a1, a2, a3, a4] 2 v [a0, a1, some v, a3, a4] := jx_st1_app [a0, a1] [a3, a4] h
theorem jx_f5_2 {v : Value} {a0 a1 a2 a3 a4 : Option Value} (h : jx_nl a1) : jx_st2 [a0, a1, a2, a3, a4] 2 v [a0, a1, some v, none, a4] := jx_st2_app [a0, a1] [a4] h
theorem jx_e5_3 {v : Value} {a0 a1 a2 a3 a4 : Option Value} (h : jx_nl a2) : jx_st1 [a0, a1, a2, a3, a4] 3 v [a0, a1, a2, some v, a4] := jx_st1_app [a0, a1, a2] [a4] h
theorem jx_f5_3 {v : Value} {a0 a1 a2 a3 a4 : Option Value} (h : jx_nl a2) : jx_st2 [a0, a1, a2, a3, a4] 3 v [a0, a1, a2, some v, none] := jx_st2_app [a0, a1, a2] [] h
theorem jx_e5_4 {v : Value} {a0 a1 a2 a3 a4 : Option Value} (h : jx_nl a3) : jx_st1 [a0, a1, a2, a3, a4] 4 v [a0, a1, a2, a3, some v] := jx_st1_app [a0, a1, a2, a3] [] h
theorem jx_e6_0 {v : Value} {a0 a1 a2 a3 a4 a5 : Option Value} : jx_st1 [a0, a1, a2, a3, a4, a5] 0 v [some v, a1, a2, a3, a4, a5] := jx_st1_app [] [a1, a2, a3, a4, a5] trivial
theorem jx_f6_0 {v : Value} {a0 a1 a2 a3 a4 a5 : Option Value} : jx_st2 [a0, a1, a2, a3, a4, a5] 0 v [some v, none, a2, a3, a4, a5] := jx_st2_app [] [a2, a3, a4, a5] trivial
theorem jx_e6_1 {v : Value} {a0 a1 a2 a3 a4 a5 : Option Value} (h : jx_nl a0) : jx_st1 [a0, a1, a2, a3, a4, a5] 1 v [a0, some v, a2, a3, a4, a5] := jx_st1_app [a0] [a2, a3, a4, a5] h
theorem jx_f6_1 {v : Value} {a0 a1 a2 a3 a4 a5 : Option Value} (h : jx_nl a0) : jx_st2 [a0, a1, a2, a3, a4, a5] 1 v [a0, some v, none, a3, a4, a5] := jx_st2_app [a0] [a3, a4, a5] h
theorem jx_e6_2 {v : Value} {a0 a1 a2 a3 a4 a5 : Option Value} (h : jx_nl a1) : jx_st1 [a0, a1, a2, a3, a4, a5] 2 v [a0, a1, some v, a3, a4, a5] := jx_st1_app [a0, a1] [a3, a4, a5] h
theorem jx_f6_2 {v : Value} {a0 a1 a2 a3 a4 a5 : Option Value} (h : jx_nl a1) : jx_st2 [a0, a1, a2, a3, a4, a5] 2 v [a0, a1, some v, none, a4, a5] := jx_st2_app [a0, a1] [a4, a5] h
theorem jx_e6_3 {v : Value} {a0 a1 a2 a3 a4 a5 : Option Value} (h : jx_nl a2) : jx_st1 [a0, a1, a2, a3, a4, a5] 3 v [a0, a1, a2, some v, a4, a5] := jx_st1_app [a0, a1, a2] [a4, a5] h
theorem jx_f6_3 {v : Value} {a0 a1 a2 a3 a4 a5 : Option Value} (h : jx_nl a2) : jx_st2 [a0, a1, a2, a3, a4, a5] 3 v [a0, a1, a2, some v, none, a5] := jx_st2_app [a0, a1, a2] [a5] h
theorem jx_e6_4 {v : Value} {a0 a1 a2 a3 a4 a5 : Option Value} (h : jx_nl a3) : jx_st1 [a0, a1, a2, a3, a4, a5] 4 v [a0, a1, a2, a3, some v, a5] := jx_st1_app [a0, a1, a2, a3] [a5] h
theorem jx_f6_4 {v : Value} {a0 a1 a2 a3 a4 a5 : Option Value} (h : jx_nl a3) : jx_st2 [a0, a1, a2, a3, a4, a5] 4 v [a0, a1, a2, a3, some v, none] := jx_st2_app [a0, a1, a2, a3] [] h
theorem jx_e6_5 {v : Value} {a0 a1 a2 a3 a4 a5 : Option Value} (h : jx_nl a4) : jx_st1 [a0, a1, a2, a3, a4, a5] 5 v [a0, a1, a2, a3, a4, some v] := jx_st1_app [a0, a1, a2, a3, a4] [] h
theorem jx_e7_0 {v : Value} {a0 a1 a2 a3 a4 a5 a6 : Option Value} : jx_st1 [a0, a1, a2, a3, a4, a5, a6] 0 v [some v, a1, a2, a3, a4, a5, a6] := jx_st1_app [] [a1, a2, a3, a4, a5, a6] trivial
theorem jx_f7_0 {v : Value} {a0 a1 a2 a3 a4 a5 a6 : Option Value} : jx_st2 [a0, a1, a2, a3, a4, a5, a6] 0 v [some v, none, a2, a3, a4, a5, a6] := jx_st2_app [] [a2, a3, a4, a5, a6] trivial
theorem jx_e7_1 {v : Value} {a0 a1 a2 a3 a4 a5 a6 : Option Value} (h : jx_nl a0) : jx_st1 [a0, a1, a2, a3, a4, a5, a6] 1 v [a0, some v, a2, a3, a4, a5, a6] := jx_st1_app [a0] [a2, a3, a4, a5, a6] h
theorem jx_f7_1 {v : Value} {a0 a1 a2 a3 a4 a5 a6 : Option Value} (h : jx_nl a0) : jx_st2 [a0, a1, a2, a3, a4, a5, a6] 1 v [a0, some v, none, a3, a4, a5, a6] := jx_st2_app [a0] [a3, a4, a5, a6] h
theorem jx_e7_2 {v : Value} {a0 a1 a2 a3 a4 a5 a6 : Option Value} (h : jx_nl a1) : jx_st1 [a0, a1, a2, a3, a4, a5, a6] 2 v [a0, a1, some v, a3, a4, a5, a6] := jx_st1_app [a0, a1] [a3, a4, a5, a6] h
theorem jx_f7_2 {v : Value} {a0 a1 a2 a3 a4 a5 a6 : Option Value} (h : jx_nl a1) : jx_st2 [a0, a1, a2, a3, a4, a5, a6] 2 v [a0, a1, some v, none, a4, a5, a6] := jx_st2_app [a0, a1] [a4, a5, a6] h
theorem jx_e7_3 {v : Value} {a0 a1 a2 a3 a4 a5 a6 : Option Value} (h : jx_nl a2) : jx_st1 [a0, a1, a2, a3, a4, a5, a6] 3 v [a0, a1, a2, some v, a4, a5, a6] := jx_st1_app [a0, a1, a2] [a4, a5, a6] h
theorem jx_f7_3 {v : Value} {a0 a1 a2 a3 a4 a5 a6 : Option Value} (h : jx_nl a2) : jx_st2 [a0, a1, a2, a3, a4, a5, a6] 3 v [a0, a1, a2, some v, none, a5, a6] := jx_st2_app [a0, a1, a2] [a5, a6] h
theorem jx_e7_4 {v : Value} {a0 a1 a2 a3 a4 a5 a6 : Option Value} (h : jx_nl a3) : jx_st1 [a0, a1, a2, a3, a4, a5, a6] 4 v [a0, a1, a2, a3, some v, a5, a6] := jx_st1_app [a0, a1, a2, a3] [a5, a6] h
theorem jx_f7_4 {v : Value} {a0 a1 a2 a3 a4 a5 a6 : Option Value} (h : jx_nl a3) : jx_st2 [a0, a1, a2, a3, a4, a5, a6] 4 v [a0, a1, a2, a3, some v, none, a6] := jx_st2_app [a0, a1, a2, a3] [a6] h
theorem jx_e7_5 {v : Value} {a0 a1 a2 a3 a4 a5 a6 : Option Value} (h : jx_nl a4) : jx_st1 [a0, a1, a2, a3, a4, a5, a6] 5 v [a0, a1, a2, a3, a4, some v, a6] := jx_st1_app [a0, a1, a2, a3, a4] [a6] h
theorem jx_f7_5 {v : Value} {a0 a1 a2 a3 a4 a5 a6 : Option Value} (h : jx_nl a4) : jx_st2 [a0, a1, a2, a3, a4, a5, a6] 5 v [a0, a1, a2, a3, a4, some v, none] := jx_st2_app [a0, a1, a2, a3, a4] [] h
theorem jx_e7_6 {v : Value} {a0 a1 a2 a3 a4 a5 a6 : Option Value} (h : jx_nl a5) : jx_st1 [a0, a1, a2, a3, a4, a5, a6] 6 v [a0, a1, a2, a3, a4, a5, some v] := jx_st1_app [a0, a1, a2, a3, a4, a5] [] h
theorem jx_e8_0 {v : Value} {a0 a1 a2 a3 a4 a5 a6 a7 : Option Value} : jx_st1 [a0, a1, a2, a3, a4, a5, a6, a7] 0 v [some v, a1, a2, a3, a4, a5, a6, a7] := jx_st1_app [] [a1, a2, a3, a4, a5, a6, a7] trivial
theorem jx_f8_0 {v : Value} {a0 a1 a2 a3 a4 a5 a6 a7 : Option Value} : jx_st2 [a0, a1, a2, a3, a4, a5, a6, a7] 0 v [some v, none, a2, a3, a4, a5, a6, a7] := jx_st2_app [] [a2, a3, a4, a5, a6, a7] trivial
theorem jx_e8_1 {v : Value} {a0 a1 a2 a3 a4 a5 a6 a7 : Option Value} (h : jx_nl a0) : jx_st1 [a0, a1, a2, a3, a4, a5, a6, a7] 1 v [a0, some v, a2, a3, a4, a5, a6, a7] := jx_st1_app [a0] [a2, a3, a4, a5, a6, a7] h
theorem jx_f8_1 {v : Value} {a0 a1 a2 a3 a4 a5 a6 a7 : Option Value} (h : jx_nl a0) : jx_st2 [a0, a1, a2, a3, a4, a5, a6, a7] 1 v [a0, some v, none, a3, a4, a5, a6, a7] := jx_st2_app [a0] [a3, a4, a5, a6, a7] h
theorem jx_e8_2 {v : Value} {a0 a1 a2 a3 a4 a5 a6 a7 : Option Value} (h : jx_nl a1) : jx_st1 [a0, a1, a2, a3, a4, a5, a6, a7] 2 v [a0, a1, some v, a3, a4, a5, a6, a7] := jx_st1_app [a0, a1] [a3, a4, a5, a6, a7] h
theorem jx_f8_2 {v : Value} {a0 a1 a2 a3 a4 a5 a6 a7 : Option Value} (h : jx_nl a1) : jx_st2 [a0, a1, a2, a3, a4, a5, a6, a7] 2 v [a0, a1, some v, none, a4, a5, a6, a7] := jx_st2_app [a0, a1] [a4, a5, a6, a7] h
theorem jx_e8_3 {v : Value} {a0 a1 a2 a3 a4 a5 a6 a7 : Option Value} (h : jx_nl a2) : jx_st1 [a0, a1, a2, a3, a4, a5, a6, a7] 3 v [a0, a1, a2, some v, a4, a5, a6, a7] := jx_st1_app [a0, a1, a2] [a4, a5, a6, a7] h
theorem jx_f8_3 {v : Value} {a0 a1 a2 a3 a4 a5 a6 a7 : Option Value} (h : jx_nl a2) : jx_st2 [a0, a1, a2, a3, a4, a5, a6, a7] 3 v [a0, a1, a2, some v, none, a5, a6, a7] := jx_st2_app [a0, a1, a2] [a5, a6, a7] h
theorem jx_e8_4 {v : Value} {a0 a1 a2 a3 a4 a5 a6 a7 : Option Value} (h : jx_nl a3) : jx_st1 [a0, a1, a2, a3, a4, a5, a6, a7] 4 v [a0, a1, a2, a3, some v, a5, a6, a7] := jx_st1_app [a0, a1, a2, a3] [a5, a6, a7] h
theorem jx_f8_4 {v : Value} {a0 a1 a2 a3 a4 a5 a6 a7 : Option Value} (h : jx_nl a3) : jx_st2 [a0, a1, a2, a3, a4, a5, a6, a7] 4 v [a0, a1, a2, a3, some v, none, a6, a7] := jx_st2_app [a0, a1, a2, a3] [a6, a7] h
theorem jx_e8_5 {v : Value} {a0 a1 a2 a3 a4 a5 a6 a7 : Option Value} (h : jx_nl a4) : jx_st1 [a0, a1, a2, a3, a4, a5, a6, a7] 5 v [a0, a1, a2, a3, a4, some v, a6, a7] := jx_st1_app [a0, a1, a2, a3, a4] [a6, a7] h
theorem jx_f8_5 {v : Value} {a0 a1 a2 a3 a4 a5 a6 a7 : Option Value} (h : jx_nl a4) : jx_st2 [a0, a1, a2, a3, a4, a5, a6, a7] 5 v [a0, a1, a2, a3, a4, some v, none, a7] := jx_st2_app [a0, a1, a2, a3, a4] [a7] h
theorem jx_e8_6 {v : Value} {a0 a1 a2 a3 a4 a5 a6 a7 : Option Value} (h : jx_nl a5) : jx_st1 [a0, a1, a2, a3, a4, a5, a6, a7] 6 v [a0, a1, a2, a3, a4, a5, some v, a7] := jx_st1_app [a0, a1, a2, a3, a4, a5] [a7] h
theorem jx_f8_6 {v : Value} {a0 a1 a2 a3 a4 a5 a6 a7 : Option Value} (h : jx_nl a5) : jx_st2 [a0, a1, a2, a3, a4, a5, a6, a7] 6 v [a0, a1, a2, a3, a4, a5, some v, none] := jx_st2_app [a0, a1, a2, a3, a4, a5] [] h
theorem jx_e8_7 {v : Value} {a0 a1 a2 a3 a4 a5 a6 a7 : Option Value} (h : jx_nl a6) : jx_st1 [a0, a1, a2, a3, a4, a5, a6, a7] 7 v [a0, a1, a2, a3, a4, a5, a6, some v] := jx_st1_app [a0, a1, a2, a3, a4, a5, a6] [] h
theorem jx_e9_0 {v : Value} {a0 a1 a2 a3 a4 a5 a6 a7 a8 : Option Value} : jx_st1 [a0, a1, a2, a3, a4, a5, a6, a7, a8] 0 v [some v, a1, a2, a3, a4, a5, a6, a7, a8] := jx_st1_app [] [a1, a2, a3, a4, a5, a6, a7, a8] trivial
theorem jx_f9_0 {v : Value} {a0 a1 a2 a3 a4 a5 a6 a7 a8 : Option Value} : jx_st2 [a0, a1, a2, a3, a4, a5, a6, a7, a8] 0 v [some v, none, a2, a3, a4, a5, a6, a7, a8] := jx_st2_app [] [a2, a3, a4, a5, a6, a7, a8] trivial
theorem jx_e9_1 {v : Value} {a0 a1 a2 a3 a4 a5 a6 a7 a8 : Option Value} (h : jx_nl a0) : jx_st1 [a0, a1, a2, a3, a4, a5, a6, a7, a8] 1 v [a0, some v, a2, a3, a4, a5, a6, a7, a8] := jx_st1_app [a0] [a2, a3, a4, a5, a6, a7, a8] h
theorem jx_f9_1 {v : Value} {a0 a1 a2 a3 a4 a5 a6 a7 a8 : Option Value} (h : jx_nl a0) : jx_st2 [a0, a1, a2, a3, a4, a5, a6, a7, a8] 1 v [a0, some v, none, a3, a4, a5, a6, a7, a8] := jx_st2_app [a0] [a3, a4, a5, a6, a7, a8] h
theorem jx_e9_2 {v : Value} {a0 a1 a2 a3 a4 a5 a6 a7 a8 : Option Value} (h : jx_nl a1) : jx_st1 [a0, a1, a2, a3, a4, a5, a6, a7, a8] 2 v [a0, a1, some v, a3, a4, a5, a6, a7, a8] := jx_st1_app [a0, a1] [a3, a4, a5, a6, a7, a8] h
theorem jx_f9_2 {v : Value} {a0 a1 a2 a3 a4 a5 a6 a7 a8 : Option Value} (h : jx_nl a1) : jx_st2 [a0, a1, a2, a3, a4, a5, a6, a7, a8] 2 v [a0, a1, some v, none, a4, a5, a6, a7, a8] := jx_st2_app [a0, a1] [a4, a5, a6, a7, a8] h
theorem jx_e9_3 {v : Value} {a0 a1 a2 a3 a4 a5 a6 a7 a8 : Option Value} (h : jx_nl a2) : jx_st1 [a0, a1, a2, a3, a4, a5, a6, a7, a8] 3 v [a0, a1, a2, some v, a4, a5, a6, a7, a8] := jx_st1_app [a0, a1, a2] [a4, a5, a6, a7, a8] h
theorem jx_f9_3 {v : Value} {a0 a1 a2 a3 a4 a5 a6 a7 a8 : Option Value} (h : jx_nl a2) : jx_st2 [a0, a1, a2, a3, a4, a5, a6, a7, a8] 3 v [a0, a1, a2, some v, none, a5, a6, a7, a8] := jx_st2_app [a0, a1, a2] [a5, a6, a7, a8] h
theorem jx_e9_4 {v : Value} {a0 a1 a2 a3 a4 a5 a6 a7 a8 : Option Value} (h : jx_nl a3) : jx_st1 [a0, a1, a2, a3, a4, a5, a6, a7, a8] 4 v [a0, a1, a2, a3, some v, a5, a6, a7, a8] := jx_st1_app [a0, a1, a2, a3] [a5, a6, a7, a8] h
theorem jx_f9_4 {v : Value} {a0 a1 a2 a3 a4 a5 a6 a7 a8 : Option Value} (h : jx_nl a3) : jx_st2 [a0, a1, a2, a3, a4, a5, a6, a7, a8] 4 v [a0, a1, a2, a3, some v, none, a6, a7, a8] := jx_st2_app [a0, a1, a2, a3] [a6, a7, a8] h
theorem jx_e9_5 {v : Value} {a0 a1 a2 a3 a4 a5 a6 a7 a8 : Option Value} (h : jx_nl a4) : jx_st1 [a0, a1, a2, a3, a4, a5, a6, a7, a8] 5 v [a0, a1, a2, a3, a4, some v, a6, a7, a8] := jx_st1_app [a0, a1, a2, a3, a4] [a6, a7, a8] h
theorem jx_f9_5 {v : Value} {a0 a1 a2 a3 a4 a5 a6 a7 a8 : Option Value} (h : jx_nl a4) : jx_st2 [a0, a1, a2, a3, a4, a5, a6, a7, a8] 5 v [a0, a1, a2, a3, a4, some v, none, a7, a8] := jx_st2_app [a0, a1, a2, a3, a4] [a7, a8] h
theorem jx_e9_6 {v : Value} {a0 a1 a2 a3 a4 a5 a6 a7 a8 : Option Value} (h : jx_nl a5) : jx_st1 [a0, a1, a2, a3, a4, a5, a6, a7, a8] 6 v [a0, a1, a2, a3, a4, a5, some v, a7, a8] := jx_st1_app [a0, a1, a2, a3, a4, a5] [a7, a8] h
theorem jx_f9_6 {v : Value} {a0 a1 a2 a3 a4 a5 a6 a7 a8 : Option Value} (h : jx_nl a5) : jx_st2 [a0, a1, a2, a3, a4, a5, a6, a7, a8] 6 v [a0, a1, a2, a3, a4, a5, some v, none, a8] := jx_st2_app [a0, a1, a2, a3, a4, a5] [a8] h
theorem jx_e9_7 {v : Value} {a0 a1 a2 a3 a4 a5 a6 a7 a8 : Option Value} (h : jx_nl a6) : jx_st1 [a0, a1, a2, a3, a4, a5, a6, a7, a8] 7 v [a0, a1, a2, a3, a4, a5, a6, some v, a8] := jx_st1_app [a0, a1, a2, a3, a4, a5, a6] [a8] h
theorem jx_f9_7 {v : Value} {a0 a1 a2 a3 a4 a5 a6 a7 a8 : Option Value} (h : jx_nl a6) : jx_st2 [a0, a1, a2, a3, a4, a5, a6, a7, a8] 7 v [a0, a1, a2, a3, a4, a5, a6, some v, none] := jx_st2_app [a0, a1, a2, a3, a4, a5, a6] [] h
theorem jx_e9_8 {v : Value} {a0 a1 a2 a3 a4 a5 a6 a7 a8 : Option Value} (h : jx_nl a7) : jx_st1 [a0, a1, a2, a3, a4, a5, a6, a7, a8] 8 v [a0, a1, a2, a3, a4, a5, a6, a7, some v] := jx_st1_app [a0, a1, a2, a3, a4, a5, a6, a7] [] h
theorem jx_e10_0 {v : Value} {a0 a1 a2 a3 a4 a5 a6 a7 a8 a9 : Option Value} : jx_st1 [a0, a1, a2, a3, a4, a5, a6, a7, a8, a9] 0 v [some v, a1, a2, a3, a4, a5, a6, a7, a8, a9] := jx_st1_app [] [a1, a2, a3, a4, a5, a6, a7, a8, a9] trivial
theorem jx_f10_0 {v : Value} {a0 a1 a2 a3 a4 a5 a6 a7 a8 a9 : Option Value} : jx_st2 [a0, a1, a2, a3, a4, a5, a6, a7, a8, a9] 0 v [some v, none, a2, a3, a4, a5, a6, a7, a8, a9] := jx_st2_app [] [a2, a3, a4, a5, a6, a7, a8, a9] trivial
theorem jx_e10_1 {v : Value} {a0 a1 a2 a3 a4 a5 a6 a7 a8 a9 : Option Value} (h : jx_nl a0) : jx_st1 [a0, a1, a2, a3, a4, a5, a6, a7, a8, a9] 1 v [a0, some v, a2, a3, a4, a5, a6, a7, a8, a9] := jx_st1_app [a0] [a2, a3, a4, a5, a6, a7, a8, a9] h
theorem jx_f10_1 {v : Value} {a0 a1 a2 a3 a4 a5 a6 a7 a8 a9 : Option Value} (h : jx_nl a0) : jx_st2 [a0, a1, a2, a3, a4, a5, a6, a7, a8, a9] 1 v [a0, some v, none, a3, a4, a5, a6, a7, a8, a9] := jx_st2_app [a0] [a3, a4, a5, a6, a7, a8, a9] h
theorem jx_e10_2 {v : Value} {a0 a1 a2 a3 a4 a5 a6 a7 a8 a9 : Option Value} (h : jx_nl a1) : jx_st1 [a0, a1, a2, a3, a4, a5, a6, a7, a8, a9] 2 v [a0, a1, some v, a3, a4, a5, a6, a7, a8, a9] := jx_st1_app [a0, a1] [a3, a4, a5, a6, a7, a8, a9] h
theorem jx_f10_2 {v : Value} {a0 a1 a2 a3 a4 a5 a6 a7 a8 a9 : Option Value} (h : jx_nl a1) : jx_st2 [a0, a1, a2, a3, a4, a5, a6, a7, a8, a9] 2 v [a0, a1, some v, none, a4, a5, a6, a7, a8, a9] := jx_st2_app [a0, a1] [a4, a5, a6, a7, a8, a9] h
theorem jx_e10_3 {v : Value} {a0 a1 a2 a3 a4 a5 a6 a7 a8 a9 : Option Value} (h : jx_nl a2) : jx_st1 [a0, a1, a2, a3, a4, a5, a6, a7, a8, a9] 3 v [a0, a1, a2, some v, a4, a5, a6, a7, a8, a9] := jx_st1_app [a0, a1, a2] [a4, a5, a6, a7, a8, a9] h
theorem jx_f10_3 {v : Value} {a0 a1 a2 a3 a4 a5 a6 a7 a8 a9 : Option Value} (h : jx_nl a2) : jx_st2 [a0, a1, a2, a3, a4, a5, a6, a7, a8, a9] 3 v [a0, a1, a2, some v, none, a5, a6, a7, a8, a9] := jx_st2_app [a0, a1, a2] [a5, a6, a7, a8, a9] h
theorem jx_e10_4 {v : Value} {a0 a1 a2 a3 a4 a5 a6 a7 a8 a9 : Option Value} (h : jx_nl a3) : jx_st1 [a0, a1, a2, a3, a4, a5, a6, a7, a8, a9] 4 v [a0, a1, a2, a3, some v, a5, a6, a7, a8, a9] := jx_st1_app [a0, a1, a2, a3] [a5, a6, a7, a8, a9] h
theorem jx_f10_4 {v : Value} {a0 a1 a2 a3 a4 a5 a6 a7 a8 a9 : Option Value} (h : jx_nl a3) : jx_st2 [a0, a1, a2, a3, a4, a5, a6, a7, a8, a9] 4 v [a0, a1, a2, a3, some v, none, a6, a7, a8, a9] := jx_st2_app [a0, a1, a2, a3] [a6, a7, a8, a9] h
theorem jx_e10_5 {v : Value} {a0 a1 a2 a3 a4 a5 a6 a7 a8 a9 : Option Value} (h : jx_nl a4) : jx_st1 [a0, a1, a2, a3, a4, a5, a6, a7, a8, a9] 5 v [a0, a1, a2, a3, a4, some v, a6, a7, a8, a9] := jx_st1_app [a0, a1, a2, a3, a4] [a6, a7, a8, a9] h
theorem jx_f10_5 {v : Value} {a0 a1 a2 a3 a4 a5 a6 a7 a8 a9 : Option Value} (h : jx_nl a4) : jx_st2 [a0, a1, a2, a3, a4, a5, a6, a7, a8, a9] 5 v [a0, a1, a2, a3, a4, some v, none, a7, a8, a9] := jx_st2_app [a0, a1, a2, a3, a4] [a7, a8, a9] h
theorem jx_e10_6 {v : Value} {a0 a1 a2 a3 a4 a5 a6 a7 a8 a9 : Option Value} (h : jx_nl a5) : jx_st1 [a0, a1, a2, a3, a4, a5, a6, a7, a8, a9] 6 v [a0, a1, a2, a3, a4, a5, some v, a7, a8, a9] := jx_st1_app [a0, a1, a2, a3, a4, a5] [a7, a8, a9] h
theorem jx_f10_6 {v : Value} {a0 a1 a2 a3 a4 a5 a6 a7 a8 a9 : Option Value} (h : jx_nl a5) : jx_st2 [a0, a1, a2, a3, a4, a5, a6, a7, a8, a9] 6 v [a0, a1, a2, a3, a4, a5, some v, none, a8, a9] := jx_st2_app [a0, a1, a2, a3, a4, a5] [a8, a9] h
theorem jx_e10_7 {v : Value} {a0 a1 a2 a3 a4 a5 a6 a7 a8 a9 : Option Value} (h : jx_nl a6) : jx_st1 [a0, a1, a2, a3, a4, a5, a6, a7, a8, a9] 7 v [a0, a1, a2, a3, a4, a5, a6, some v, a8, a9] := jx_st1_app [a0, a1, a2, a3, a4, a5, a6] [a8, a9] h
theorem jx_f10_7 {v : Value} {a0 a1 a2 a3 a4 a5 a6 a7 a8 a9 : Option Value} (h : jx_nl a6) : jx_st2 [a0, a1, a2, a3, a4, a5, a6, a7, a8, a9] 7 v [a0, a1, a2, a3, a4, a5, a6, some v, none, a9] := jx_st2_app [a0, a1, a2, a3, a4, a5, a6] [a9] h
theorem jx_e10_8 {v : Value} {a0 a1 a2 a3 a4 a5 a6 a7 a8 a9 : Option Value} (h : jx_nl a7) : jx_st1 [a0, a1, a2, a3, a4, a5, a6, a7, a8, a9] 8 v [a0, a1, a2, a3, a4, a5, a6, a7, some v, a9] := jx_st1_app [a0, a1, a2, a3, a4, a5, a6, a7] [a9] h
theorem jx_f10_8 {v : Value} {a0 a1 a2 a3 a4 a5 a6 a7 a8 a9 : Option Value} (h : jx_nl a7) : jx_st2 [a0, a1, a2, a3, a4, a5, a6, a7, a8, a9] 8 v [a0, a1, a2, a3, a4, a5, a6, a7, some v, none] := jx_st2_app [a0, a1, a2, a3, a4, a5, a6, a7] [] h
theorem jx_e10_9 {v : Value} {a0 a1 a2 a3 a4 a5 a6 a7 a8 a9 : Option Value} (h : jx_nl a8) : jx_st1 [a0, a1, a2, a3, a4, a5, a6, a7, a8, a9] 9 v [a0, a1, a2, a3, a4, a5, a6, a7, a8, some v] := jx_st1_app [a0, a1, a2, a3, a4, a5, a6, a7, a8] [] h
theorem jx_e11_0 {v : Value} {a0 a1 a2 a3 a4 a5 a6 a7 a8 a9 a10 : Option Value} : jx_st1 [a0, a1, a2, a3, a4, a5, a6, a7, a8, a9, a10] 0 v [some v, a1, a2, a3, a4, a5, a6, a7, a8, a9, a10] := jx_st1_app [] [a1, a2, a3, a4, a5, a6, a7, a8, a9, a10] trivial
theorem jx_f11_0 {v : Value} {a0 a1 a2 a3 a4 a5 a6 a7 a8 a9 a10 : Option Value} : jx_st2 [a0, a1, a2, a3, a4, a5, a6, a7, a8, a9, a10] 0 v [some v, none, a2, a3, a4, a5, a6, a7, a8, a9, a10] := jx_st2_app [] [a2, a3, a4, a5, a6, a7, a8, a9, a10] trivial
theorem jx_e11_1 {v : Value} {a0 a1 a2 a3 a4 a5 a6 a7 a8 a9 a10 : Option Value} (h : jx_nl a0) : jx_st1 [a0, a1, a2, a3, a4, a5, a6, a7, a8, a9, a10] 1 v [a0, some v, a2, a3, a4, a5, a6, a7, a8, a9, a10] := jx_st1_app [a0] [a2, a3, a4, a5, a6, a7, a8, a9, a10] h
theorem jx_f11_1 {v : Value} {a0 a1 a2 a3 a4 a5 a6 a7 a8 a9 a10 : Option Value} (h : jx_nl a0) : jx_st2 [a0, a1, a2, a3, a4, a5, a6, a7, a8, a9, a10] 1 v [a0, some v, none, a3, a4, a5, a6, a7, a8, a9, a10] := jx_st2_app [a0] [a3, a4, a5, a6, a7, a8, a9, a10] h
theorem jx_e11_2 {v : Value} {a0 a1 a2 a3 a4 a5 a6 a7 a8 a9 a10 : Option Value} (h : jx_nl a1) : jx_st1 [a0, a1, a2, a3, a4, a5, a6, a7, a8, a9, a10] 2 v [a0, a1, some v, a3, a4, a5, a6, a7, a8, a9, a10] := jx_st1_app [a0, a1] [a3, a4, a5, a6, a7, a8, a9, a10] h
theorem jx_f11_2 {v : Value} {a0 a1 a2 a3 a4 a5 a6 a7 a8 a9 a10 : Option Value} (h : jx_nl a1) : jx_st2 [a0, a1, a2, a3, a4, a5, a6, a7, a8, a9, a10] 2 v [a0, a1, some v, none, a4, a5, a6, a7, a8, a9, a10] := jx_st2_app [a0, a1] [a4, a5, a6, a7, a8, a9, a10] h
theorem jx_e11_3 {v : Value} {a0 a1 a2 a3 a4 a5 a6 a7 a8 a9 a10 : Option Value} (h : jx_nl a2) : jx_st1 [a0, a1, a2, a3, a4, a5, a6, a7, a8, a9, a10] 3 v [a0, a1, a2, some v, a4, a5, a6, a7, a8, a9, a10] := jx_st1_app [a0, a1, a2] [a4, a5, a6, a7, a8, a9, a10] h
theorem jx_f11_3 {v : Value} {a0 a1 a2 a3 a4 a5 a6 a7 a8 a9 a10 : Option Value} (h : jx_nl a2) : jx_st2 [a0, a1, a2, a3, a4, a5, a6, a7, a8, a9, a10] 3 v [a0, a1, a2, some v, none, a5, a6, a7, a8, a9, a10] := jx_st2_app [a0, a1, a2] [a5, a6, a7, a8, a9, a10] h
theorem jx_e11_4 {v : Value} {a0 a1 a2 a3 a4 a5 a6 a7 a8 a9 a10 : Option Value} (h : jx_nl a3) : jx_st1 [a0, a1, a2, a3, a4, a5, a6, a7, a8, a9, a10] 4 v [a0, a1, a2, a3, some v, a5, a6, a7, a8, a9, a10] := jx_st1_app [a0, a1, a2, a3] [a5, a6, a7, a8, a9, a10] h
theorem jx_f11_4 {v : Value} {a0 a1 a2 a3 a4 a5 a6 a7 a8 a9 a10 : Option Value} (h : jx_nl a3) : jx_st2 [a0, a1, a2, a3, a4, a5, a6, a7, a8, a9, a10] 4 v [a0, a1, a2, a3, some v, none, a6, a7, a8, a9, a10] := jx_st2_app [a0, a1, a2, a3] [a6, a7, a8, a9, a10] h
theorem jx_e11_5 {v : Value} {a0 a1 a2 a3 a4 a5 a6 a7 a8 a9 a10 : Option Value} (h : jx_nl a4) : jx_st1 [a0, a1, a2, a3, a4, a5, a6, a7, a8, a9, a10] 5 v [a0, a1, a2, a3, a4, some v, a6, a7, a8, a9, a10] := jx_st1_app [a0, a1, a2, a3, a4] [a6, a7, a8, a9, a10] h
theorem jx_f11_5 {v : Value} {a0 a1 a2 a3 a4 a5 a6 a7 a8 a9 a10 : Option Value} (h : jx_nl a4) : jx_st2 [a0, a1, a2, a3, a4, a5, a6, a7, a8, a9, a10] 5 v [a0, a1, a2, a3, a4, some v, none, a7, a8, a9, a10] := jx_st2_app [a0, a1, a2, a3, a4] [a7, a8, a9, a10] h
theorem jx_e11_6 {v : Value} {a0 a1 a2 a3 a4 a5 a6 a7 a8 a9 a10 : Option Value} (h : jx_nl a5) : jx_st1 [a0, a1, a2, a3, a4, a5, a6, a7, a8, a9, a10] 6 v [a0, a1, a2, a3, a4, a5, some v, a7, a8, a9, a10] := jx_st1_app [a0, a1, a2, a3, a4, a5] [a7, a8, a9, a10] h
theorem jx_f11_6 {v : Value} {a0 a1 a2 a3 a4 a5 a6 a7 a8 a9 a10 : Option Value} (h : jx_nl a5) : jx_st2 [a0, a1, a2, a3, a4, a5, a6, a7, a8, a9, a10] 6 v [a0, a1, a2, a3, a4, a5, some v, none, a8, a9, a10] := jx_st2_app [a0, a1, a2, a3, a4, a5] [a8, a9, a10] h
theorem jx_e11_7 {v : Value} {a0 a1 a2 a3 a4 a5 a6 a7 a8 a9 a10 : Option Value} (h : jx_nl a6) : jx_st1 [a0, a1, a2, a3, a4, a5, a6, a7, a8, a9, a10] 7 v [a0, a1, a2, a3, a4, a5, a6, some v, a8, a9, a10] := jx_st1_app [a0, a1, a2, a3, a4, a5, a6] [a8, a9, a10] h
theorem jx_f11_7 {v : Value} {a0 a1 a2 a3 a4 a5 a6 a7 a8 a9 a10 : Option Value} (h : jx_nl a6) : jx_st2 [a0, a1, a2, a3, a4, a5, a6, a7, a8, a9, a10] 7 v [a0, a1, a2, a3, a4, a5, a6, some v, none, a9, a10] := jx_st2_app [a0, a1, a2, a3, a4, a5, a6] [a9, a10] h
theorem jx_e11_8 {v : Value} {a0 a1 a2 a3 a4 a5 a6 a7 a8 a9 a10 : Option Value} (h : jx_nl a7) : jx_st1 [a0, a1, a2, a3, a4, a5, a6, a7, a8, a9, a10] 8 v [a0, a1, a2, a3, a4, a5, a6, a7, some v, a9, a10] := jx_st1_app [a0, a1, a2, a3, a4, a5, a6, a7] [a9, a10] h
theorem jx_f11_8 {v : Value} {a0 a1 a2 a3 a4 a5 a6 a7 a8 a9 a10 : Option Value} (h : jx_nl a7) : jx_st2 [a0, a1, a2, a3, a4, a5, a6, a7, a8, a9, a10] 8 v [a0, a1, a2, a3, a4, a5, a6, a7, some v, none, a10] := jx_st2_app [a0, a1, a2, a3, a4, a5, a6, a7] [a10] h
theorem jx_e11_9 {v : Value} {a0 a1 a2 a3 a4 a5 a6 a7 a8 a9 a10 : Option Value} (h : jx_nl a8) : jx_st1 [a0, a1, a2, a3, a4, a5, a6, a7, a8, a9, a10] 9 v [a0, a1, a2, a3, a4, a5, a6, a7, a8, some v, a10] := jx_st1_app [a0, a1, a2, a3, a4, a5, a6, a7, a8] [a10] h
theorem jx_f11_9 {v : Value} {a0 a1 a2 a3 a4 a5 a6 a7 a8 a9 a10 : Option Value} (h : jx_nl a8) : jx_st2 [a0, a1, a2, a3, a4, a5, a6, a7, a8, a9, a10] 9 v [a0, a1, a2, a3, a4, a5, a6, a7, a8, some v, none] := jx_st2_app [a0, a1, a2, a3, a4, a5, a6, a7, a8] [] h
theorem jx_e11_10 {v : Value} {a0 a1 a2 a3 a4 a5 a6 a7 a8 a9 a10 : Option Value} (h : jx_nl a9) : jx_st1 [a0, a1, a2, a3, a4, a5, a6, a7, a8, a9, a10] 10 v [a0, a1, a2, a3, a4, a5, a6, a7, a8, a9, some v] := jx_st1_app [a0, a1, a2, a3, a4, a5, a6, a7, a8, a9] [] h
theorem jx_e12_0 {v : Value} {a0 a1 a2 a3 a4 a5 a6 a7 a8 a9 a10 a11 : Option Value} : jx_st1 [a0, a1, a2, a3, a4, a5, a6, a7, a8, a9, a10, a11] 0 v [some v, a1, a2, a3, a4, a5, a6, a7, a8, a9, a10, a11] := jx_st1_app [] [a1, a2, a3, a4, a5, a6, a7, a8, a9, a10, a11] trivial
theorem jx_f12_0 {v : Value} {a0 a1 a2 a3 a4 a5 a6 a7 a8 a9 a10 a11 : Option Value} : jx_st2 [a0, a1, a2, a3, a4, a5, a6, a7, a8, a9, a10, a11] 0 v [some v, none, a2, a3, a4, a5, a6, a7, a8, a9, a10, a11] := jx_st2_app [] [a2, a3, a4, a5, a6, a7, a8, a9, a10, a11] trivial
theorem jx_e12_1 {v : Value} {a0 a1 a2 a3 a4 a5 a6 a7 a8 a9 a10 a11 : Option Value} (h : jx_nl a0) : jx_st1 [a0, a1, a2, a3, a4, a5, a6, a7, a8, a9, a10, a11] 1 v [a0, some v, a2, a3, a4, a5, a6, a7, a8, a9, a10, a11] := jx_st1_app [a0] [a2, a3, a4, a5, a6, a7, a8, a9, a10, a11] h
theorem jx_f12_1 {v : Value} {a0 a1 a2 a3 a4 a5 a6 a7 a8 a9 a10 a11 : Option Value} (h : jx_nl a0) : jx_st2 [a0, a1, a2, a3, a4, a5, a6, a7, a8, a9, a10, a11] 1 v [a0, some v, none, a3, a4, a5, a6, a7, a8, a9, a10, a11] := jx_st2_app [a0] [a3, a4, a5, a6, a7, a8, a9, a10, a11] h
theorem jx_e12_2 {v : Value} {a0 a1 a2 a3 a4 a5 a6 a7 a8 a9 a10 a11 : Option Value} (h : jx_nl a1) : jx_st1 [a0, a1, a2, a3, a4, a5, a6, a7, a8, a9, a10, a11] 2 v [a0, a1, some v, a3, a4, a5, a6, a7, a8, a9, a10, a11] := jx_st1_app [a0, a1] [a3, a4, a5, a6, a7, a8, a9, a10, a11] h
theorem jx_f12_2 {v : Value} {a0 a1 a2 a3 a4 a5 a6 a7 a8 a9 a10 a11 : Option Value} (h : jx_nl a1) : jx_st2 [a0, a1, a2, a3, a4, a5, a6, a7, a8, a9, a10, a11] 2 v [a0, a1, some v, none, a4, a5, a6, a7, a8, a9, a10, a11] := jx_st2_app [a0, a1] [a4, a5, a6, a7, a8, a9, a10, a11] h
theorem jx_e12_3 {v : Value} {a0 a1 a2 a3 a4 a5 a6 a7 a8 a9 a10 a11 : Option Value} (h : jx_nl a2) : jx_st1 [a0, a1, a2, a3, a4, a5, a6, a7, a8, a9, a10, a11] 3 v [a0, a1, a2, some v, a4, a5, a6, a7, a8, a9, a10, a11] := jx_st1_app [a0, a1, a2] [a4, a5, a6, a7, a8, a9, a10, a11] h
theorem jx_f12_3 {v : Value} {a0 a1 a2 a3 a4 a5 a6 a7 a8 a9 a10 a11 : Option Value} (h : jx_nl a2) : jx_st2 [a0, a1, a2, a3, a4, a5, a6, a7, a8, a9, a10, a11] 3 v [a0, a1, a2, some v, none, a5, a6, a7, a8, a9, a10, a11] := jx_st2_app [a0, a1, a2] [a5, a6, a7, a8, a9, a10, a11] h
theorem jx_e12_4 {v : Value} {a0 a1 a2 a3 a4 a5 a6 a7 a8 a9 a10 a11 : Option Value} (h : jx_nl a3) : jx_st1 [a0, a1, a2, a3, a4, a5, a6, a7, a8, a9, a10, a11] 4 v [a0, a1, a2, a3, some v, a5, a6, a7, a8, a9, a10, a11] := jx_st1_app [a0, a1, a2, a3] [a5, a6, a7, a8, a9, a10, a11] h
theorem jx_f12_4 {v : Value} {a0 a1 a2 a3 a4 a5 a6 a7 a8 a9 a10 a11 : Option Value} (h : jx_nl a3) : jx_st2 [a0, a1, a2, a3, a4, a5, a6, a7, a8, a9, a10, a11] 4 v [a0, a1, a2, a3, some v, none, a6, a7, a8, a9, a10, a11] := jx_st2_app [a0, a1, a2, a3] [a6, a7, a8, a9, a10, a11] h
theorem jx_e12_5 {v : Value} {a0 a1 a2 a3 a4 a5 a6 a7 a8 a9 a10 a11 : Option Value} (h : jx_nl a4) : jx_st1 [a0, a1, a2, a3, a4, a5, a6, a7, a8, a9, a10, a11] 5 v [a0, a1, a2, a3, a4, some v, a6, a7, a8, a9, a10, a11] := jx_st1_app [a0, a1, a2, a3, a4] [a6, a7, a8, a9, a10, a11] h
theorem jx_f12_5 {v : Value} {a0 a1 a2 a3 a4 a5 a6 a7 a8 a9 a10 a11 : Option Value} (h : jx_nl a4) : jx_st2 [a0, a1, a2, a3, a4, a5, a6, a7, a8, a9, a10, a11] 5 v [a0, a1, a2, a3, a4, some v, none, a7, a8, a9, a10, a11] := jx_st2_app [a0, a1, a2, a3, a4] [a7, a8, a9, a10, a11] h
theorem jx_e12_6 {v : Value} {a0 a1 a2 a3 a4 a5 a6 a7 a8 a9 a10 a11 : Option Value} (h : jx_nl a5) : jx_st1 [a0, a1, a2, a3, a4, a5, a6, a7, a8, a9, a10, a11] 6 v [a0, a1, a2, a3, a4, a5, some v, a7, a8, a9, a10, a11] := jx_st1_app [a0, a1, a2, a3, a4, a5] [a7, a8, a9, a10, a11] h
theorem jx_f12_6 {v : Value} {a0 a1 a2 a3 a4 a5 a6 a7 a8 a9 a10 a11 : Option Value} (h : jx_nl a5) : jx_st2 [a0, a1, a2, a3, a4, a5, a6, a7, a8, a9, a10, a11] 6 v [a0, a1, a2, a3, a4, a5, some v, none, a8, a9, a10, a11] := jx_st2_app [a0, a1, a2, a3, a4, a5] [a8, a9, a10, a11] h
theorem jx_e12_7 {v : Value} {a0 a1 a2 a3 a4 a5 a6 a7 a8 a9 a10 a11 : Option Value} (h : jx_nl a6) : jx_st1 [a0, a1, a2, a3, a4, a5, a6, a7, a8, a9, a10, a11] 7 v [a0, a1, a2, a3, a4, a5, a6, some v, a8, a9, a10, a11] := jx_st1_app [a0, a1, a2, a3, a4, a5, a6] [a8, a9, a10, a11] h
theorem jx_f12_7 {v : Value} {a0 a1 a2 a3 a4 a5 a6 a7 a8 a9 a10 a11 : Option Value} (h : jx_nl a6) : jx_st2 [a0, a1, a2, a3, a4, a5, a6, a7, a8, a9, a10, a11] 7 v [a0, a1, a2, a3, a4, a5, a6, some v, none, a9, a10, a11] := jx_st2_app [a0, a1, a2, a3, a4, a5, a6] [a9, a10, a11] h
theorem jx_e12_8 {v : Value} {a0 a1 a2 a3 a4 a5 a6 a7 a8 a9 a10 a11 : Option Value} (h : jx_nl a7) : jx_st1 [a0, a1, a2, a3, a4, a5, a6, a7, a8, a9, a10, a11] 8 v [a0, a1, a2, a3, a4, a5, a6, a7, some v, a9, a10, a11] := jx_st1_app [a0, a1, a2, a3, a4, a5, a6, a7] [a9, a10, a11] h
theorem jx_f12_8 {v : Value} {a0 a1 a2 a3 a4 a5 a6 a7 a8 a9 a10 a11 : Option Value} (h : jx_nl a7) : jx_st2 [a0, a1, a2, a3, a4, a5, a6, a7, a8, a9, a10, a11] 8 v [a0, a1, a2, a3, a4, a5, a6, a7, some v, none, a10, a11] := jx_st2_app [a0, a1, a2, a3, a4, a5, a6, a7] [a10, a11] h
theorem jx_e12_9 {v : Value} {a0 a1 a2 a3 a4 a5 a6 a7 a8 a9 a10 a11 : Option Value} (h : jx_nl a8) : jx_st1 [a0, a1, a2, a3, a4, a5, a6, a7, a8, a9, a10, a11] 9 v [a0, a1, a2, a3, a4, a5, a6, a7, a8, some v, a10, a11] := jx_st1_app [a0, a1, a2, a3, a4, a5, a6, a7, a8] [a10, a11] h
theorem jx_f12_9 {v : Value} {a0 a1 a2 a3 a4 a5 a6 a7 a8 a9 a10 a11 : Option Value} (h : jx_nl a8) : jx_st2 [a0, a1, a2, a3, a4, a5, a6, a7, a8, a9, a10, a11] 9 v [a0, a1, a2, a3, a4, a5, a6, a7, a8, some v, none, a11] := jx_st2_app [a0, a1, a2, a3, a4, a5, a6, a7, a8] [a11] h
theorem jx_e12_10 {v : Value} {a0 a1 a2 a3 a4 a5 a6 a7 a8 a9 a10 a11 : Option Value} (h : jx_nl a9) : jx_st1 [a0, a1, a2, a3, a4, a5, a6, a7, a8, a9, a10, a11] 10 v [a0, a1, a2, a3, a4, a5, a6, a7, a8, a9, some v, a11] := jx_st1_app [a0, a1, a2, a3, a4, a5, a6, a7, a8, a9] [a11] h
theorem jx_f12_10 {v : Value} {a0 a1 a2 a3 a4 a5 a6 a7 a8 a9 a10 a11 : Option Value} (h : jx_nl a9) : jx_st2 [a0, a1, a2, a3, a4, a5, a6, a7, a8, a9, a10, a11] 10 v [a0, a1, a2, a3, a4, a5, a6, a7, a8, a9, some v, none] := jx_st2_app [a0, a1, a2, a3, a4, a5, a6, a7, a8, a9] [] h
theorem jx_e12_11 {v : Value} {a0 a1 a2 a3 a4 a5 a6 a7 a8 a9 a10 a11 : Option Value} (h : jx_nl a10) : jx_st1 [a0, a1, a2, a3, a4, a5, a6, a7, a8, a9, a10, a11] 11 v [a0, a1, a2, a3, a4, a5, a6, a7, a8, a9, a10, some v] := jx_st1_app [a0, a1, a2, a3, a4, a5, a6, a7, a8, a9, a10] [] h
theorem jx_e13_0 {v : Value} {a0 a1 a2 a3 a4 a5 a6 a7 a8 a9 a10 a11 a12 : Option Value} : jx_st1 [a0, a1, a2, a3, a4, a5, a6, a7, a8, a9, a10, a11, a12] 0 v [some v, a1, a2, a3, a4, a5, a6, a7, a8, a9, a10, a11, a12] := jx_st1_app [] [a1, a2, a3, a4, a5, a6, a7, a8, a9, a10, a11, a12] trivial
theorem jx_f13_0 {v : Value} {a0 a1 a2 a3 a4 a5 a6 a7 a8 a9 a10 a11 a12 : Option Value} : jx_st2 [a0, a1, a2, a3, a4, a5, a6, a7, a8, a9, a10, a11, a12] 0 v [some v, none, a2, a3, a4, a5, a6, a7, a8, a9, a10, a11, a12] := jx_st2_app [] [a2, a3, a4, a5, a6, a7, a8, a9, a10, a11, a12] trivial
theorem jx_e13_1 {v : Value} {a0 a1 a2 a3 a4 a5 a6 a7 a8 a9 a10 a11 a12 : Option Value} (h : jx_nl a0) : jx_st1 [a0, a1, a2, a3, a4, a5, a6, a7, a8, a9, a10, a11, a12] 1 v [a0, some v, a2, a3, a4, a5, a6, a7, a8, a9, a10, a11, a12] := jx_st1_app [a0] [a2, a3, a4, a5, a6, a7, a8, a9, a10, a11, a12] h
theorem jx_f13_1 {v : Value} {a0 a1 a2 a3 a4 a5 a6 a7 a8 a9 a10 a11 a12 : Option Value} (h : jx_nl a0) : jx_st2 [a0, a1, a2, a3, a4, a5, a6, a7, a8, a9, a10, a11, a12] 1 v [a0, some v, none, a3, a4, a5, a6, a7, a8, a9, a10, a11, a12] := jx_st2_app [a0] [a3, a4, a5, a6, a7, a8, a9, a10, a11, a12] h
theorem jx_e13_2 {v : Value} {a0 a1 a2 a3 a4 a5 a6 a7 a8 a9 a10 a11 a12 : Option Value} (h : jx_nl a1) : jx_st1 [a0, a1, a2, a3, a4, a5, a6, a7, a8, a9, a10, a11, a12] 2 v [a0, a1, some v, a3, a4, a5, a6, a7, a8, a9, a10, a11, a12] := jx_st1_app [a0, a1] [a3, a4, a5, a6, a7, a8, a9, a10, a11, a12] h
theorem jx_f13_2 {v : Value} {a0 a1 a2 a3 a4 a5 a6 a7 a8 a9 a10 a11 a12 : Option Value} (h : jx_nl a1) : jx_st2 [a0, a1, a2, a3, a4, a5, a6, a7, a8, a9, a10, a11, a12] 2 v [a0, a1, some v, none, a4, a5, a6, a7, a8, a9, a10, a11, a12] := jx_st2_app [a0, a1] [a4, a5, a6, a7, a8, a9, a10, a11, a12] h
theorem jx_e13_3 {v : Value} {a0 a1 a2 a3 a4 a5 a6 a7 a8 a9 a10 a11 a12 : Option Value} (h : jx_nl a2) : jx_st1 [a0, a1, a2, a3, a4, a5, a6, a7, a8, a9, a10, a11, a12] 3 v [a0, a1, a2, some v, a4, a5, a6, a7, a8, a9, a10, a11, a12] := jx_st1_app [a0, a1, a2] [a4, a5, a6, a7, a8, a9, a10, a11, a12] h
theorem jx_f13_3 {v : Value} {a0 a1 a2 a3 a4 a5 a6 a7 a8 a9 a10 a11 a12 : Option Value} (h : jx_nl a2) : jx_st2 [a0, a1, a2, a3, a4, a5, a6, a7, a8, a9, a10, a11, a12] 3 v [a0, a1, a2, some v, none, a5, a6, a7, a8, a9, a10, a11, a12] := jx_st2_app [a0, a1, a2] [a5, a6, a7, a8, a9, a10, a11, a12] h
theorem jx_e13_4 {v : Value} {a0 a1 a2 a3 a4 a5 a6 a7 a8 a9 a10 a11 a12 : Option Value} (h : jx_nl a3) : jx_st1 [a0, a1, a2, a3, a4, a5, a6, a7, a8, a9, a10, a11, a12] 4 v [a0, a1, a2, a3, some v, a5, a6, a7, a8, a9, a10, a11, a12] := jx_st1_app [a0, a1, a2, a3] [a5, a6, a7, a8, a9, a10, a11, a12] h
theorem jx_f13_4 {v : Value} {a0 a1 a2 a3 a4 a5 a6 a7 a8 a9 a10 a11 a12 : Option Value} (h : jx_nl a3) : jx_st2 [a0, a1, a2, a3, a4, a5, a6, a7, a8, a9, a10, a11, a12] 4 v [a0, a1, a2, a3, some v, none, a6, a7, a8, a9, a10, a11, a12] := jx_st2_app [a0, a1, a2, a3] [a6, a7, a8, a9, a10, a11, a12] h
theorem jx_e13_5 {v : Value} {a0 a1 a2 a3 a4 a5 a6 a7 a8 a9 a10 a11 a12 : Option Value} (h : jx_nl a4) : jx_st1 [a0, a1, a2, a3, a4, a5, a6, a7, a8, a9, a10, a11, a12] 5 v [a0, a1, a2, a3, a4, some v, a6, a7, a8, a9, a10, a11, a12] := jx_st1_app [a0, a1, a2, a3, a4] [a6, a7, a8, a9, a10, a11, a12] h
theorem jx_f13_5 {v : Value} {a0 a1 a2 a3 a4 a5 a6 a7 a8 a9 a10 a11 a12 : Option Value} (h : jx_nl a4) : jx_st2 [a0, a1, a2, a3, a4, a5, a6, a7, a8, a9, a10, a11, a12] 5 v [a0, a1, a2, a3, a4, some v, none, a7, a8, a9, a10, a11, a12] := jx_st2_app [a0, a1, a2, a3, a4] [a7, a8, a9, a10, a11, a12] h
theorem jx_e13_6 {v : Value} {a0 a1 a2 a3 a4 a5 a6 a7 a8 a9 a10 a11 a12 : Option Value} (h : jx_nl a5) : jx_st1 [a0, a1, a2, a3, a4, a5, a6, a7, a8, a9, a10, a11, a12] 6 v [a0, a1, a2, a3, a4, a5, some v, a7, a8, a9, a10, a11, a12] := jx_st1_app [a0, a1, a2, a3, a4, a5] [a7, a8, a9, a10, a11, a12] h
theorem jx_f13_6 {v : Value} {a0 a1 a2 a3 a4 a5 a6 a7 a8 a9 a10 a11 a12 : Option Value} (h : jx_nl a5) : jx_st2 [a0, a1, a2, a3, a4, a5, a6, a7, a8, a9, a10, a11, a12] 6 v [a0, a1, a2, a3, a4, a5, some v, none, a8, a9, a10, a11, a12] := jx_st2_app [a0, a1, a2, a3, a4, a5] [a8, a9, a10, a11, a12] h
theorem jx_e13_7 {v : Value} {a0 a1 a2 a3 a4 a5 a6 a7 a8 a9 a10 a11 a12 : Option Value} (h : jx_nl a6) : jx_st1 [a0, a1, a2, a3, a4, a5, a6, a7, a8, a9, a10, a11, a12] 7 v [a0, a1, a2, a3, a4, a5, a6, some v, a8, a9, a10, a11, a12] := jx_st1_app [a0, a1, a2, a3, a4, a5, a6] [a8, a9, a10, a11, a12] h
theorem jx_f13_7 {v : Value} {a0 a1 a2 a3 a4 a5 a6 a7 a8 a9 a10 a11 a12 : Option Value} (h : jx_nl a6) : jx_st2 [a0, a1, a2, a3, a4, a5, a6, a7, a8, a9, a10, a11, a12] 7 v [a0, a1, a2, a3, a4, a5, a6, some v, none, a9, a10, a11, a12] := jx_st2_app [a0, a1, a2, a3, a4, a5, a6] [a9, a10, a11, a12] h
theorem jx_e13_8 {v : Value} {a0 a1 a2 a3 a4 a5 a6 a7 a8 a9 a10 a11 a12 : Option Value} (h : jx_nl a7) : jx_st1 [a0, a1, a2, a3, a4, a5, a6, a7, a8, a9, a10, a11, a12] 8 v [a0, a1, a2, a3, a4, a5, a6, a7, some v, a9, a10, a11, a12] := jx_st1_app [a0, a1, a2, a3, a4, a5, a6, a7] [a9, a10, a11, a12] h
theorem jx_f13_8 {v : Value} {a0 a1 a2 a3 a4 a5 a6 a7 a8 a9 a10 a11 a12 : Option Value} (h : jx_nl a7) : jx_st2 [a0, a1, a2, a3, a4, a5, a6, a7, a8, a9, a10, a11, a12] 8 v [a0, a1, a2, a3, a4, a5, a6, a7, some v, none, a10, a11, a12] := jx_st2_app [a0, a1, a2, a3, a4, a5, a6, a7] [a10, a11, a12] h
theorem jx_e13_9 {v : Value} {a0 a1 a2 a3 a4 a5 a6 a7 a8 a9 a10 a11 a12 : Option Value} (h : jx_nl a8) : jx_st1 [a0, a1, a2, a3, a4, a5, a6, a7, a8, a9, a10, a11, a12] 9 v [a0, a1, a2, a3, a4, a5, a6, a7, a8, some v, a10, a11, a12] := jx_st1_app [a0, a1, a2, a3, a4, a5, a6, a7, a8] [a10, a11, a12] h
theorem jx_f13_9 {v : Value} {a0 a1 a2 a3 a4 a5 a6 a7 a8 a9 a10 a11 a12 : Option Value} (h : jx_nl a8) : jx_st2 [a0, a1, a2, a3, a4, a5, a6, a7, a8, a9, a10, a11, a12] 9 v [a0, a1, a2, a3, a4, a5, a6, a7, a8, some v, none, a11, a12] := jx_st2_app [a0, a1, a2, a3, a4, a5, a6, a7, a8] [a11, a12] h
theorem jx_e13_10 {v : Value} {a0 a1 a2 a3 a4 a5 a6 a7 a8 a9 a10 a11 a12 : Option Value} (h : jx_nl a9) : jx_st1 [a0, a1, a2, a3, a4, a5, a6, a7, a8, a9, a10, a11, a12] 10 v [a0, a1, a2, a3, a4, a5, a6, a7, a8, a9, some v, a11, a12] := jx_st1_app [a0, a1, a2, a3, a4, a5, a6, a7, a8, a9] [a11, a12] h
theorem jx_f13_10 {v : Value} {a0 a1 a2 a3 a4 a5 a6 a7 a8 a9 a10 a11 a12 : Option Value} (h : jx_nl a9) : jx_st2 [a0, a1, a2, a3, a4, a5, a6, a7, a8, a9, a10, a11, a12] 10 v [a0, a1, a2, a3, a4, a5, a6, a7, a8, a9, some v, none, a12] := jx_st2_app [a0, a1, a2, a3, a4, a5, a6, a7, a8, a9] [a12] h
theorem jx_e13_11 {v : Value} {a0 a1 a2 a3 a4 a5 a6 a7 a8 a9 a10 a11 a12 : Option Value} (h : jx_nl a10) : jx_st1 [a0, a1, a2, a3, a4, a5, a6, a7, a8, a9, a10, a11, a12] 11 v [a0, a1, a2, a3, a4, a5, a6, a7, a8, a9, a10, some v, a12] := jx_st1_app [a0, a1, a2, a3, a4, a5, a6, a7, a8, a9, a10] [a12] h
theorem jx_f13_11 {v : Value} {a0 a1 a2 a3 a4 a5 a6 a7 a8 a9 a10 a11 a12 : Option Value} (h : jx_nl a10) : jx_st2 [a0, a1, a2, a3, a4, a5, a6, a7, a8, a9, a10, a11, a12] 11 v [a0, a1, a2, a3, a4, a5, a6, a7, a8, a9, a10, some v, none] := jx_st2_app [a0, a1, a2, a3, a4, a5, a6, a7, a8, a9, a10] [] h
theorem jx_e13_12 {v : Value} {a0 a1 a2 a3 a4 a5 a6 a7 a8 a9 a10 a11 a12 : Option Value} (h : jx_nl a11) : jx_st1 [a0, a1, a2, a3, a4, a5, a6, a7, a8, a9, a10, a11, a12] 12 v [a0, a1, a2, a3, a4, a5, a6, a7, a8, a9, a10, a11, some v] := jx_st1_app [a0, a1, a2, a3, a4, a5, a6, a7, a8, a9, a10, a11] [] h
end
section
/-! PART 03: contracts over pictures, entry, ends, calls -/
def jx_rm (d mc ms : Nat) : Room := { frames := d + 1, cells := mc, slots := ms, locals := 32 * d + 100 }
def jx_cw (y : jx_md) : List Cond := Cond.code y.1 y.2.1 y.2.2.1 y.2.2.2 :: jx_tb
def jx_Pc (G : jx_G) (as : List Value) (M : jx_H) (sz : Nat) : Array Value → State → Prop := fun v U => v = as.toArray ∧ jx_K G U ∧ jx_R G M sz U.heap
def jx_Qr (G : jx_G) (Z : Option Value → jx_H → Nat → Prop) : Array Value → State → Outcome → State → Prop := fun _ st o t => ∃ (v : Option Value) (M : jx_H) (sz : Nat), o = .returned v ∧ Z v M sz ∧ jx_R G M sz t.heap ∧ st.heap.size ≤ t.heap.size ∧ ∀ q : Nat, q < jx_B G → t.heap[q]? = st.heap[q]?
/-- A CONTRACT: called with 'as' on a heap with the picture M, the method returns, and Z holds of its answer and of the picture then -/
def jx_Cr (y : jx_md) (G : jx_G) (d : Nat) (as : List Value) (M : jx_H) (sz mc ms : Nat) (Z : Option Value → jx_H → Nat → Prop) : Prop := ∀ L : Launch, L.stackTraces = false → Met L y.1 (jx_cw y) (jx_rm d mc ms) (jx_Pc G as M sz) (jx_Qr G Z) mc ms (fun q => jx_B G ≤ q)
def jx_Q1 (G : jx_G) (mc ms : Nat) (Z : Option Value → jx_H → Nat → Prop) : Array Value → State → List Frame → State → Prop := fun args s below => MQ below (jx_Qr G Z) args s mc ms (fun q => jx_B G ≤ q)
theorem jx_blind {G : jx_G} {as : List Value} {M : jx_H} {sz : Nat} : FrameBlind (jx_Pc G as M sz) := fun a U g mk q => ⟨q.1, q.2.1.call, q.2.2⟩
section JXC
variable {y : jx_md} {hh : jx_h4} {G : jx_G} {d : Nat} {R : Room} {Q : Array Value → State → List Frame → State → Prop} {pc : Nat} {l : List (Option Value)} {st : List Value} {M : jx_H} {sz kc ks mc ms : Nat} {Z : Option Value → jx_H → Nat → Prop}
theorem jx_ent {as : List Value} (hy : plainName y.1.cls = true) (hn : (lg_sl as).length ≤ y.2.2.1) (hl : jx_le (jx_eas as) l) (k : (∀ a e, M a = some e → a < sz) → jx_V y [] G (jx_rm d mc ms) (jx_Q1 G mc ms Z) 0 l [] M sz 0 0) : jx_Cr y G d as M sz mc ms Z := by
  intro L hst
  refine Met.ofW (cc := y.2.1) (maxL := y.2.2.1) (ret := y.2.2.2) hy rfl ?_
  intro p e s m args below meth c s₁ X hml hv
  obtain ⟨rfl, hK, hR⟩ := hv
  have hts := atoms_spec (ws := jx_cw y) X.pre
  have hcd := hts _ (List.mem_cons_self)
  have hown : s.vm.findClass y.1.cls = some m.cls := findClass_of_methodNamed X.named
  have hex := X.noHandlers hcd
  rw [lg_entry_eq]
  refine k (fun a e h => hR.lt h) p L e s m _ below meth c ⟨X.exec, X.bytes, X.returns, hml, hown, fun w hw => hts w (List.mem_cons_of_mem _ hw), X.notSynchronized, (name_of_methodNamed X.named X.method).1, ?_, hst⟩ hK s.heap [] _ hR ⟨Nat.le_refl _, fun _ _ => rfl, fun _ h => by cases h⟩ (jx_L.entry hn hl)
  have : c.exceptionTable = #[] := by simpa using hex
  rw [this]
  rfl
theorem jx_fin {v : Option Value} {args : Array Value} {s : State} {H : Heap} {locs : List Loc} (hR : jx_R G M sz H) (hS : jx_S G s.heap H locs) (hz : Z v M sz) (t : State) (ht : t.heap = H) : jx_Qr G Z args s (.returned v) t :=
  ⟨v, M, sz, rfl, hz, by rw [ht]; exact hR, by rw [ht]; exact hS.1, fun q h => by rw [ht]; exact hS.2.1 q h⟩
theorem jx_iret {v : Int32} (dc : decode y.2.1 pc = .ok (.ireturn, 1)) (hr : y.2.2.2 = some .int) (h1 : kc ≤ mc) (h2 : ks ≤ ms) (hz : Z (some (.int v)) M sz) : jx_V y hh G R (jx_Q1 G mc ms Z) pc l [.int v] M sz kc ks := by
  intro p L e s m args below meth c C K H locs ls hR hS hL
  obtain ⟨hx, hb, hr2, hml, hown, hts, hlk, hnm, hex, hst⟩ := id C
  refine W.widen h1 h2 ?_
  exact W.iret hx hb (hr2.trans hr) (fun t ht hW => jx_fin hR hS hz t ht) hS.2.2 dc hlk
theorem jx_zret {v : Int32} (dc : decode y.2.1 pc = .ok (.ireturn, 1)) (hr : y.2.2.2 = some .boolean) (hv : v = 0 ∨ v = 1) (h1 : kc ≤ mc) (h2 : ks ≤ ms) (hz : Z (some (.int v)) M sz) : jx_V y hh G R (jx_Q1 G mc ms Z) pc l [.int v] M sz kc ks := by
  intro p L e s m args below meth c C K H locs ls hR hS hL
  obtain ⟨hx, hb, hr2, hml, hown, hts, hlk, hnm, hex, hst⟩ := id C
  refine W.widen h1 h2 ?_
  exact W.zret hx hb (hr2.trans hr) (by rcases hv with rfl | rfl <;> rfl) (fun t ht hW => jx_fin hR hS hz t ht) hS.2.2 dc hlk
theorem jx_lret {v : Int64} (dc : decode y.2.1 pc = .ok (.lreturn, 1)) (hr : y.2.2.2 = some .long) (h1 : kc ≤ mc) (h2 : ks ≤ ms) (hz : Z (some (.long v)) M sz) : jx_V y hh G R (jx_Q1 G mc ms Z) pc l [.long v] M sz kc ks := by
  intro p L e s m args below meth c C K H locs ls hR hS hL
  obtain ⟨hx, hb, hr2, hml, hown, hts, hlk, hnm, hex, hst⟩ := id C
  refine W.widen h1 h2 ?_
  exact W.lret hx hb (hr2.trans hr) (fun t ht hW => jx_fin hR hS hz t ht) hS.2.2 dc hlk
theorem jx_vret (dc : decode y.2.1 pc = .ok (.return_, 1)) (hr : y.2.2.2 = none) (h1 : kc ≤ mc) (h2 : ks ≤ ms) (hz : Z none M sz) : jx_V y hh G R (jx_Q1 G mc ms Z) pc l [] M sz kc ks := by
  intro p L e s m args below meth c C K H locs ls hR hS hL
  obtain ⟨hx, hb, hr2, hml, hown, hts, hlk, hnm, hex, hst⟩ := id C
  refine W.widen h1 h2 ?_
  exact W.vret hx hb (hr2.trans hr) (fun t ht hW => jx_fin hR hS hz t ht) hS.2.2 dc hlk
theorem jx_aret {a : Nat} (dc : decode y.2.1 pc = .ok (.areturn, 1)) {rt : FieldType} (hr : y.2.2.2 = some rt) (hrt : (∃ n, rt = .object n) ∨ ∃ t, rt = .array t) (h1 : kc ≤ mc) (h2 : ks ≤ ms) (hz : Z (some (.ref a)) M sz) : jx_V y hh G R (jx_Q1 G mc ms Z) pc l [.ref a] M sz kc ks := by
  intro p L e s m args below meth c C K H locs ls hR hS hL
  obtain ⟨hx, hb, hr2, hml, hown, hts, hlk, hnm, hex, hst⟩ := id C
  refine W.widen h1 h2 ?_
  exact W.aret hx hb (hr2.trans hr) hrt (Or.inr ⟨a, rfl⟩) (fun t ht hW => jx_fin hR hS hz t ht) hS.2.2 dc hlk
/-- behind a call that has come back -/
theorem jx_back {p : Program} {L : Launch} {e : Env} {s : State} {m : MethodId} {args : Array Value} {below : List Frame} {meth : Method} {c : Code} {H : Heap} {locs : List Loc} {ls : Array Slot} {st0 rest : List Value} {mc2 ms2 : Nat} {Z2 : Option Value → jx_H → Nat → Prop} {as2 : Array Value}
    (C : jx_CX y hh p L s m args meth c) (K : jx_K G s) (hS : jx_S G s.heap H locs) (hL : jx_L ls y.2.2.1 l)
    (hr : va_Run p L e R s m args below meth c H locs kc ks mc2 ms2 (F0 m pc ls st0) rest (jx_Qr G Z2 as2) (fun q => jx_B G ≤ q))
    (k : ∀ v M' sz', Z2 v M' sz' → jx_V y hh G R Q (pc + 3) l (v.toList ++ rest) M' sz' (kc + mc2) (ks + ms2)) : W p L e R s m args below meth c H locs kc ks (Q args s below) (F0 m pc ls st0) := by
  intro T hT X
  obtain ⟨v, st₀, t, T', L', h0, X', hL', e1, e2, ⟨v', M', sz', hv, hz, hR', hsz, hk⟩, stp⟩ := hr T hT X
  cases hv
  rw [h0] at hsz hk
  obtain ⟨t2, a1, b1⟩ := k v M' sz' hz p L e s m args below meth c C K t.heap (locs ++ L') ls hR' (hS.call hsz hk hL') hL T' e1 X'
  exact ⟨t2, stp t2 a1, b1⟩
end JXC
end
section
/-! PART 04: calls -/
/-- what the tables say of a call's link -/
def jx_ML (own : String) (idx : Nat) (y2 : jx_md) (n : Nat) : Prop := Cond.methodLink own idx y2.1 ∈ jx_tb ∧ Cond.code y2.1 y2.2.1 y2.2.2.1 y2.2.2.2 ∈ jx_tb ∧ Cond.initialized y2.1.cls ∈ jx_tb ∧ (y2.1.cls ≠ "java/lang/invoke/MethodHandle" ∧ y2.1.cls ≠ "java/lang/invoke/VarHandle") ∧ (parseMethodDescriptor y2.1.desc).map (fun d => d.parameters.length) = some n
def jx_MV (own C : String) (idx : Nat) (y2 : jx_md) (n : Nat) : Prop := jx_ML own idx y2 n ∧ Cond.instanceMethod y2.1 ∈ jx_tb ∧ Cond.selects C y2.1 y2.1 ∈ jx_tb
def jx_MS (own : String) (idx : Nat) (y2 : jx_md) (n : Nat) : Prop := jx_ML own idx y2 n ∧ Cond.static y2.1 ∈ jx_tb
def jx_MI (own : String) (idx : Nat) (y2 : jx_md) (n : Nat) : Prop := jx_ML own idx y2 n ∧ y2.1.name = "<init>" ∧ Cond.instanceMethod y2.1 ∈ jx_tb ∧ y2.2.2.2 = none
def jx_ok (R : Room) (d2 maxL : Nat) : Prop := d2 + 2 ≤ R.frames ∧ 8 + (maxL + 11) + (32 * d2 + 100) ≤ R.locals
theorem jx_ok_rm {d d2 maxL mc ms : Nat} (h : d2 < d) (hm : maxL ≤ 13) : jx_ok (jx_rm d mc ms) d2 maxL := by
  unfold jx_ok jx_rm
  constructor
  · show d2 + 2 ≤ d + 1
    omega
  · show 8 + (maxL + 11) + (32 * d2 + 100) ≤ 32 * d + 100
    omega
theorem jx_recv {G : jx_G} {M : jx_H} {sz : Nat} {H : Heap} {s : State} {b ci : Nat} {fs : List Value} {C : String} {T : u_T} {N : Nat} (hR : jx_R G M sz H) (K : jx_K G s) (hb : M b = some (.inl (ci, fs))) (hc : vwCl[ci]? = some (C, T, N)) : ∃ cellB : Cell, H[b]? = some cellB ∧ cellB.vm.isStatics = false ∧ s.vm.findClass C = some cellB.cls := by
  have h : va_P (jx_D G) vwCl [(b, .inr (ci, fs))] H := fun k q hq => by
    match k, hq with
    | 0, hq => cases hq; exact (hR.2.2 b _ hb).2
    | k + 1, hq => simp at hq
  exact va_recv K.1 h (ci := ci) (q0 := 0) hc rfl
section JXK
variable {y y2 : jx_md} {hh : jx_h4} {G : jx_G} {d2 : Nat} {R : Room} {Q : Array Value → State → List Frame → State → Prop} {pc : Nat} {l : List (Option Value)} {rest : List Value} {M : jx_H} {sz kc ks mc2 ms2 : Nat} {idx : Nat}
theorem jx_cb {p : Program} {L : Launch} {s : State} {m : MethodId} {args : Array Value} {meth : Method} {c : Code} {n : Nat} (C : jx_CX y hh p L s m args meth c) (lk : jx_ML y.1.cls idx y2 n) (ok : jx_ok R d2 y2.2.2.1) : CallB R s args y.1.cls idx y2.1 y2.2.1 y2.2.2.1 y2.2.2.2 (jx_cw y2) (jx_rm d2 mc2 ms2) mc2 ms2 n := by
  obtain ⟨hx, hb, hr, hml, hown, hts, hlk, hnm, hex, hst⟩ := C
  obtain ⟨l1, l2, l3, l4, l5⟩ := lk
  have hG : ∀ w ∈ jx_cw y2, w ∈ jx_tb ∧ ((w.onTables && w.keeps) = true ∨ ∃ ty, w = .arrayClass ty) := by
    intro w hw
    rcases List.mem_cons.mp hw with h | h
    · subst h
      exact ⟨l2, jx_good _ l2⟩
    · exact ⟨h, jx_good _ h⟩
  refine ⟨rfl, rfl, ok.1, ok.2, pay_in hts hG, List.mem_cons_self, hts _ l2, hts _ l3, l4, fun sig h => ?_, hts _ l1⟩
  rw [h] at l5
  exact (Option.some.inj l5).symm
theorem jx_pcU {s : State} {as : List Value} {H : Heap} {locs : List Loc} (K : jx_K G s) (hR : jx_R G M sz H) (hS : jx_S G s.heap H locs) : ∀ U : State, U.heap = H → s.WarmedH U.vm → jx_Pc G as M sz as.toArray U := fun U hU hW => ⟨rfl, K.to hW (fun q h => by rw [hU]; exact hS.2.1 q h) (by rw [hU]; exact hS.1), by rw [hU]; exact hR⟩

theorem jx_callV0 {b ci : Nat} {fs : List Value} {C : String} {T : u_T} {N : Nat} (dc : decode y.2.1 pc = .ok (.invokevirtual idx, 3)) (lk : jx_MV y.1.cls C idx y2 0) (hb0 : M b = some (.inl (ci, fs))) (hc0 : vwCl[ci]? = some (C, T, N)) (ok : jx_ok R d2 y2.2.2.1) (hw : (rest.map fun v => v.category).sum ≤ 8) (h1 : kc + mc2 ≤ R.cells) (h2 : ks + ms2 ≤ R.slots) (ct : jx_Cr y2 G d2 (.ref b :: []) M sz mc2 ms2 (fun v M' sz' => jx_V y hh G R Q (pc + 3) l (v.toList ++ rest) M' sz' (kc + mc2) (ks + ms2))) : jx_V y hh G R Q pc l (.ref b :: rest) M sz kc ks := by
  intro p L e s m args below meth c CC K H locs ls hR hS hL
  obtain ⟨hx, hb, hr, hml, hown, hts, hlk, hnm, hex, hst⟩ := id CC
  refine jx_back CC K hS hL (va_runV (As := []) (b := b) (C := C) (rest := rest) (Ts := jx_tb) ⟨hx, hb, hml, hown, hts⟩ (ct L hst) ⟨jx_cb CC lk.1 ok, hts _ lk.2.1, hts _ lk.2.2⟩ ⟨jx_blind, jx_recv hR K hb0 hc0, jx_pcU K hR hS⟩ rfl rfl hL.1 rfl (lv_room (m := m) (pc := pc) (ls := ls) (rest := rest) hw) dc ⟨h1, h2⟩) (fun v M' sz' h => h)
theorem jx_callI0 {b : Nat} (dc : decode y.2.1 pc = .ok (.invokespecial idx, 3)) (lk : jx_MI y.1.cls idx y2 0) (ok : jx_ok R d2 y2.2.2.1) (hw : (rest.map fun v => v.category).sum ≤ 8) (h1 : kc + mc2 ≤ R.cells) (h2 : ks + ms2 ≤ R.slots) (ct : jx_Cr y2 G d2 (.ref b :: []) M sz mc2 ms2 (fun v M' sz' => jx_V y hh G R Q (pc + 3) l (v.toList ++ rest) M' sz' (kc + mc2) (ks + ms2))) : jx_V y hh G R Q pc l (.ref b :: rest) M sz kc ks := by
  intro p L e s m args below meth c CC K H locs ls hR hS hL
  obtain ⟨hx, hb, hr, hml, hown, hts, hlk, hnm, hex, hst⟩ := id CC
  have cb := jx_cb (mc2 := mc2) (ms2 := ms2) CC lk.1 ok
  rw [lk.2.2.2] at cb
  refine jx_back CC K hS hL (va_runI (As := []) (b := b) (rest := rest) (Ts := jx_tb) ⟨hx, hb, hml, hown, hts⟩ (ct L hst) ⟨cb, lk.2.1, hts _ lk.2.2.1⟩ ⟨jx_blind, jx_pcU K hR hS⟩ rfl rfl hL.1 rfl (lv_room (m := m) (pc := pc) (ls := ls) (rest := rest) hw) dc ⟨h1, h2⟩) (fun v M' sz' h => h)
theorem jx_callS0 (dc : decode y.2.1 pc = .ok (.invokestatic idx, 3)) (lk : jx_MS y.1.cls idx y2 0) (ok : jx_ok R d2 y2.2.2.1) (hw : (rest.map fun v => v.category).sum ≤ 8) (h1 : kc + mc2 ≤ R.cells) (h2 : ks + ms2 ≤ R.slots) (ct : jx_Cr y2 G d2 [] M sz mc2 ms2 (fun v M' sz' => jx_V y hh G R Q (pc + 3) l (v.toList ++ rest) M' sz' (kc + mc2) (ks + ms2))) : jx_V y hh G R Q pc l (rest) M sz kc ks := by
  intro p L e s m args below meth c CC K H locs ls hR hS hL
  obtain ⟨hx, hb, hr, hml, hown, hts, hlk, hnm, hex, hst⟩ := id CC
  refine jx_back CC K hS hL (va_runS (As := []) (rest := rest) (Ts := jx_tb) ⟨hx, hb, hml, hown, hts⟩ (ct L hst) ⟨jx_cb CC lk.1 ok, hts _ lk.2⟩ ⟨jx_blind, jx_pcU K hR hS⟩ rfl rfl hL.1 rfl (lv_room (m := m) (pc := pc) (ls := ls) (rest := rest) hw) dc ⟨h1, h2⟩) (fun v M' sz' h => h)
theorem jx_callV1 {x1 : Value} {b ci : Nat} {fs : List Value} {C : String} {T : u_T} {N : Nat} (dc : decode y.2.1 pc = .ok (.invokevirtual idx, 3)) (lk : jx_MV y.1.cls C idx y2 1) (hb0 : M b = some (.inl (ci, fs))) (hc0 : vwCl[ci]? = some (C, T, N)) (ok : jx_ok R d2 y2.2.2.1) (hw : (rest.map fun v => v.category).sum ≤ 8) (h1 : kc + mc2 ≤ R.cells) (h2 : ks + ms2 ≤ R.slots) (ct : jx_Cr y2 G d2 (.ref b :: [x1]) M sz mc2 ms2 (fun v M' sz' => jx_V y hh G R Q (pc + 3) l (v.toList ++ rest) M' sz' (kc + mc2) (ks + ms2))) : jx_V y hh G R Q pc l (x1 :: .ref b :: rest) M sz kc ks := by
  intro p L e s m args below meth c CC K H locs ls hR hS hL
  obtain ⟨hx, hb, hr, hml, hown, hts, hlk, hnm, hex, hst⟩ := id CC
  refine jx_back CC K hS hL (va_runV (As := [x1]) (b := b) (C := C) (rest := rest) (Ts := jx_tb) ⟨hx, hb, hml, hown, hts⟩ (ct L hst) ⟨jx_cb CC lk.1 ok, hts _ lk.2.1, hts _ lk.2.2⟩ ⟨jx_blind, jx_recv hR K hb0 hc0, jx_pcU K hR hS⟩ rfl rfl hL.1 rfl (lv_room (m := m) (pc := pc) (ls := ls) (rest := rest) hw) dc ⟨h1, h2⟩) (fun v M' sz' h => h)
theorem jx_callI1 {x1 : Value} {b : Nat} (dc : decode y.2.1 pc = .ok (.invokespecial idx, 3)) (lk : jx_MI y.1.cls idx y2 1) (ok : jx_ok R d2 y2.2.2.1) (hw : (rest.map fun v => v.category).sum ≤ 8) (h1 : kc + mc2 ≤ R.cells) (h2 : ks + ms2 ≤ R.slots) (ct : jx_Cr y2 G d2 (.ref b :: [x1]) M sz mc2 ms2 (fun v M' sz' => jx_V y hh G R Q (pc + 3) l (v.toList ++ rest) M' sz' (kc + mc2) (ks + ms2))) : jx_V y hh G R Q pc l (x1 :: .ref b :: rest) M sz kc ks := by
  intro p L e s m args below meth c CC K H locs ls hR hS hL
  obtain ⟨hx, hb, hr, hml, hown, hts, hlk, hnm, hex, hst⟩ := id CC
  have cb := jx_cb (mc2 := mc2) (ms2 := ms2) CC lk.1 ok
  rw [lk.2.2.2] at cb
  refine jx_back CC K hS hL (va_runI (As := [x1]) (b := b) (rest := rest) (Ts := jx_tb) ⟨hx, hb, hml, hown, hts⟩ (ct L hst) ⟨cb, lk.2.1, hts _ lk.2.2.1⟩ ⟨jx_blind, jx_pcU K hR hS⟩ rfl rfl hL.1 rfl (lv_room (m := m) (pc := pc) (ls := ls) (rest := rest) hw) dc ⟨h1, h2⟩) (fun v M' sz' h => h)
theorem jx_callS1 {x1 : Value} (dc : decode y.2.1 pc = .ok (.invokestatic idx, 3)) (lk : jx_MS y.1.cls idx y2 1) (ok : jx_ok R d2 y2.2.2.1) (hw : (rest.map fun v => v.category).sum ≤ 8) (h1 : kc + mc2 ≤ R.cells) (h2 : ks + ms2 ≤ R.slots) (ct : jx_Cr y2 G d2 [x1] M sz mc2 ms2 (fun v M' sz' => jx_V y hh G R Q (pc + 3) l (v.toList ++ rest) M' sz' (kc + mc2) (ks + ms2))) : jx_V y hh G R Q pc l (x1 :: rest) M sz kc ks := by
  intro p L e s m args below meth c CC K H locs ls hR hS hL
  obtain ⟨hx, hb, hr, hml, hown, hts, hlk, hnm, hex, hst⟩ := id CC
  refine jx_back CC K hS hL (va_runS (As := [x1]) (rest := rest) (Ts := jx_tb) ⟨hx, hb, hml, hown, hts⟩ (ct L hst) ⟨jx_cb CC lk.1 ok, hts _ lk.2⟩ ⟨jx_blind, jx_pcU K hR hS⟩ rfl rfl hL.1 rfl (lv_room (m := m) (pc := pc) (ls := ls) (rest := rest) hw) dc ⟨h1, h2⟩) (fun v M' sz' h => h)
theorem jx_callV2 {x1 x2 : Value} {b ci : Nat} {fs : List Value} {C : String} {T : u_T} {N : Nat} (dc : decode y.2.1 pc = .ok (.invokevirtual idx, 3)) (lk : jx_MV y.1.cls C idx y2 2) (hb0 : M b = some (.inl (ci, fs))) (hc0 : vwCl[ci]? = some (C, T, N)) (ok : jx_ok R d2 y2.2.2.1) (hw : (rest.map fun v => v.category).sum ≤ 8) (h1 : kc + mc2 ≤ R.cells) (h2 : ks + ms2 ≤ R.slots) (ct : jx_Cr y2 G d2 (.ref b :: [x1, x2]) M sz mc2 ms2 (fun v M' sz' => jx_V y hh G R Q (pc + 3) l (v.toList ++ rest) M' sz' (kc + mc2) (ks + ms2))) : jx_V y hh G R Q pc l (x2 :: x1 :: .ref b :: rest) M sz kc ks := by
  intro p L e s m args below meth c CC K H locs ls hR hS hL
  obtain ⟨hx, hb, hr, hml, hown, hts, hlk, hnm, hex, hst⟩ := id CC
  refine jx_back CC K hS hL (va_runV (As := [x1, x2]) (b := b) (C := C) (rest := rest) (Ts := jx_tb) ⟨hx, hb, hml, hown, hts⟩ (ct L hst) ⟨jx_cb CC lk.1 ok, hts _ lk.2.1, hts _ lk.2.2⟩ ⟨jx_blind, jx_recv hR K hb0 hc0, jx_pcU K hR hS⟩ rfl rfl hL.1 rfl (lv_room (m := m) (pc := pc) (ls := ls) (rest := rest) hw) dc ⟨h1, h2⟩) (fun v M' sz' h => h)
theorem jx_callI2 {x1 x2 : Value} {b : Nat} (dc : decode y.2.1 pc = .ok (.invokespecial idx, 3)) (lk : jx_MI y.1.cls idx y2 2) (ok : jx_ok R d2 y2.2.2.1) (hw : (rest.map fun v => v.category).sum ≤ 8) (h1 : kc + mc2 ≤ R.cells) (h2 : ks + ms2 ≤ R.slots) (ct : jx_Cr y2 G d2 (.ref b :: [x1, x2]) M sz mc2 ms2 (fun v M' sz' => jx_V y hh G R Q (pc + 3) l (v.toList ++ rest) M' sz' (kc + mc2) (ks + ms2))) : jx_V y hh G R Q pc l (x2 :: x1 :: .ref b :: rest) M sz kc ks := by
  intro p L e s m args below meth c CC K H locs ls hR hS hL
  obtain ⟨hx, hb, hr, hml, hown, hts, hlk, hnm, hex, hst⟩ := id CC
  have cb := jx_cb (mc2 := mc2) (ms2 := ms2) CC lk.1 ok
  rw [lk.2.2.2] at cb
  refine jx_back CC K hS hL (va_runI (As := [x1, x2]) (b := b) (rest := rest) (Ts := jx_tb) ⟨hx, hb, hml, hown, hts⟩ (ct L hst) ⟨cb, lk.2.1, hts _ lk.2.2.1⟩ ⟨jx_blind, jx_pcU K hR hS⟩ rfl rfl hL.1 rfl (lv_room (m := m) (pc := pc) (ls := ls) (rest := rest) hw) dc ⟨h1, h2⟩) (fun v M' sz' h => h)
theorem jx_callS2 {x1 x2 : Value} (dc : decode y.2.1 pc = .ok (.invokestatic idx, 3)) (lk : jx_MS y.1.cls idx y2 2) (ok : jx_ok R d2 y2.2.2.1) (hw : (rest.map fun v => v.category).sum ≤ 8) (h1 : kc + mc2 ≤ R.cells) (h2 : ks + ms2 ≤ R.slots) (ct : jx_Cr y2 G d2 [x1, x2] M sz mc2 ms2 (fun v M' sz' => jx_V y hh G R Q (pc + 3) l (v.toList ++ rest) M' sz' (kc + mc2) (ks + ms2))) : jx_V y hh G R Q pc l (x2 :: x1 :: rest) M sz kc ks := by
  intro p L e s m args below meth c CC K H locs ls hR hS hL
  obtain ⟨hx, hb, hr, hml, hown, hts, hlk, hnm, hex, hst⟩ := id CC
  refine jx_back CC K hS hL (va_runS (As := [x1, x2]) (rest := rest) (Ts := jx_tb) ⟨hx, hb, hml, hown, hts⟩ (ct L hst) ⟨jx_cb CC lk.1 ok, hts _ lk.2⟩ ⟨jx_blind, jx_pcU K hR hS⟩ rfl rfl hL.1 rfl (lv_room (m := m) (pc := pc) (ls := ls) (rest := rest) hw) dc ⟨h1, h2⟩) (fun v M' sz' h => h)
theorem jx_callV3 {x1 x2 x3 : Value} {b ci : Nat} {fs : List Value} {C : String} {T : u_T} {N : Nat} (dc : decode y.2.1 pc = .ok (.invokevirtual idx, 3)) (lk : jx_MV y.1.cls C idx y2 3) (hb0 : M b = some (.inl (ci, fs))) (hc0 : vwCl[ci]? = some (C, T, N)) (ok : jx_ok R d2 y2.2.2.1) (hw : (rest.map fun v => v.category).sum ≤ 8) (h1 : kc + mc2 ≤ R.cells) (h2 : ks + ms2 ≤ R.slots) (ct : jx_Cr y2 G d2 (.ref b :: [x1, x2, x3]) M sz mc2 ms2 (fun v M' sz' => jx_V y hh G R Q (pc + 3) l (v.toList ++ rest) M' sz' (kc + mc2) (ks + ms2))) : jx_V y hh G R Q pc l (x3 :: x2 :: x1 :: .ref b :: rest) M sz kc ks := by
  intro p L e s m args below meth c CC K H locs ls hR hS hL
  obtain ⟨hx, hb, hr, hml, hown, hts, hlk, hnm, hex, hst⟩ := id CC
  refine jx_back CC K hS hL (va_runV (As := [x1, x2, x3]) (b := b) (C := C) (rest := rest) (Ts := jx_tb) ⟨hx, hb, hml, hown, hts⟩ (ct L hst) ⟨jx_cb CC lk.1 ok, hts _ lk.2.1, hts _ lk.2.2⟩ ⟨jx_blind, jx_recv hR K hb0 hc0, jx_pcU K hR hS⟩ rfl rfl hL.1 rfl (lv_room (m := m) (pc := pc) (ls := ls) (rest := rest) hw) dc ⟨h1, h2⟩) (fun v M' sz' h => h)
theorem jx_callI3 {x1 x2 x3 : Value} {b : Nat} (dc : decode y.2.1 pc = .ok (.invokespecial idx, 3)) (lk : jx_MI y.1.cls idx y2 3) (ok : jx_ok R d2 y2.2.2.1) (hw : (rest.map fun v => v.category).sum ≤ 8) (h1 : kc + mc2 ≤ R.cells) (h2 : ks + ms2 ≤ R.slots) (ct : jx_Cr y2 G d2 (.ref b :: [x1, x2, x3]) M sz mc2 ms2 (fun v M' sz' => jx_V y hh G R Q (pc + 3) l (v.toList ++ rest) M' sz' (kc + mc2) (ks + ms2))) : jx_V y hh G R Q pc l (x3 :: x2 :: x1 :: .ref b :: rest) M sz kc ks := by
  intro p L e s m args below meth c CC K H locs ls hR hS hL
  obtain ⟨hx, hb, hr, hml, hown, hts, hlk, hnm, hex, hst⟩ := id CC
  have cb := jx_cb (mc2 := mc2) (ms2 := ms2) CC lk.1 ok
  rw [lk.2.2.2] at cb
  refine jx_back CC K hS hL (va_runI (As := [x1, x2, x3]) (b := b) (rest := rest) (Ts := jx_tb) ⟨hx, hb, hml, hown, hts⟩ (ct L hst) ⟨cb, lk.2.1, hts _ lk.2.2.1⟩ ⟨jx_blind, jx_pcU K hR hS⟩ rfl rfl hL.1 rfl (lv_room (m := m) (pc := pc) (ls := ls) (rest := rest) hw) dc ⟨h1, h2⟩) (fun v M' sz' h => h)
theorem jx_callS3 {x1 x2 x3 : Value} (dc : decode y.2.1 pc = .ok (.invokestatic idx, 3)) (lk : jx_MS y.1.cls idx y2 3) (ok : jx_ok R d2 y2.2.2.1) (hw : (rest.map fun v => v.category).sum ≤ 8) (h1 : kc + mc2 ≤ R.cells) (h2 : ks + ms2 ≤ R.slots) (ct : jx_Cr y2 G d2 [x1, x2, x3] M sz mc2 ms2 (fun v M' sz' => jx_V y hh G R Q (pc + 3) l (v.toList ++ rest) M' sz' (kc + mc2) (ks + ms2))) : jx_V y hh G R Q pc l (x3 :: x2 :: x1 :: rest) M sz kc ks := by
  intro p L e s m args below meth c CC K H locs ls hR hS hL
  obtain ⟨hx, hb, hr, hml, hown, hts, hlk, hnm, hex, hst⟩ := id CC
  refine jx_back CC K hS hL (va_runS (As := [x1, x2, x3]) (rest := rest) (Ts := jx_tb) ⟨hx, hb, hml, hown, hts⟩ (ct L hst) ⟨jx_cb CC lk.1 ok, hts _ lk.2⟩ ⟨jx_blind, jx_pcU K hR hS⟩ rfl rfl hL.1 rfl (lv_room (m := m) (pc := pc) (ls := ls) (rest := rest) hw) dc ⟨h1, h2⟩) (fun v M' sz' h => h)
theorem jx_callV4 {x1 x2 x3 x4 : Value} {b ci : Nat} {fs : List Value} {C : String} {T : u_T} {N : Nat} (dc : decode y.2.1 pc = .ok (.invokevirtual idx, 3)) (lk : jx_MV y.1.cls C idx y2 4) (hb0 : M b = some (.inl (ci, fs))) (hc0 : vwCl[ci]? = some (C, T, N)) (ok : jx_ok R d2 y2.2.2.1) (hw : (rest.map fun v => v.category).sum ≤ 8) (h1 : kc + mc2 ≤ R.cells) (h2 : ks + ms2 ≤ R.slots) (ct : jx_Cr y2 G d2 (.ref b :: [x1, x2, x3, x4]) M sz mc2 ms2 (fun v M' sz' => jx_V y hh G R Q (pc + 3) l (v.toList ++ rest) M' sz' (kc + mc2) (ks + ms2))) : jx_V y hh G R Q pc l (x4 :: x3 :: x2 :: x1 :: .ref b :: rest) M sz kc ks := by
  intro p L e s m args below meth c CC K H locs ls hR hS hL
  obtain ⟨hx, hb, hr, hml, hown, hts, hlk, hnm, hex, hst⟩ := id CC
  refine jx_back CC K hS hL (va_runV (As := [x1, x2, x3, x4]) (b := b) (C := C) (rest := rest) (Ts := jx_tb) ⟨hx, hb, hml, hown, hts⟩ (ct L hst) ⟨jx_cb CC lk.1 ok, hts _ lk.2.1, hts _ lk.2.2⟩ ⟨jx_blind, jx_recv hR K hb0 hc0, jx_pcU K hR hS⟩ rfl rfl hL.1 rfl (lv_room (m := m) (pc := pc) (ls := ls) (rest := rest) hw) dc ⟨h1, h2⟩) (fun v M' sz' h => h)
theorem jx_callI4 {x1 x2 x3 x4 : Value} {b : Nat} (dc : decode y.2.1 pc = .ok (.invokespecial idx, 3)) (lk : jx_MI y.1.cls idx y2 4) (ok : jx_ok R d2 y2.2.2.1) (hw : (rest.map fun v => v.category).sum ≤ 8) (h1 : kc + mc2 ≤ R.cells) (h2 : ks + ms2 ≤ R.slots) (ct : jx_Cr y2 G d2 (.ref b :: [x1, x2, x3, x4]) M sz mc2 ms2 (fun v M' sz' => jx_V y hh G R Q (pc + 3) l (v.toList ++ rest) M' sz' (kc + mc2) (ks + ms2))) : jx_V y hh G R Q pc l (x4 :: x3 :: x2 :: x1 :: .ref b :: rest) M sz kc ks := by
  intro p L e s m args below meth c CC K H locs ls hR hS hL
  obtain ⟨hx, hb, hr, hml, hown, hts, hlk, hnm, hex, hst⟩ := id CC
  have cb := jx_cb (mc2 := mc2) (ms2 := ms2) CC lk.1 ok
  rw [lk.2.2.2] at cb
  refine jx_back CC K hS hL (va_runI (As := [x1, x2, x3, x4]) (b := b) (rest := rest) (Ts := jx_tb) ⟨hx, hb, hml, hown, hts⟩ (ct L hst) ⟨cb, lk.2.1, hts _ lk.2.2.1⟩ ⟨jx_blind, jx_pcU K hR hS⟩ rfl rfl hL.1 rfl (lv_room (m := m) (pc := pc) (ls := ls) (rest := rest) hw) dc ⟨h1, h2⟩) (fun v M' sz' h => h)
theorem jx_callS4 {x1 x2 x3 x4 : Value} (dc : decode y.2.1 pc = .ok (.invokestatic idx, 3)) (lk : jx_MS y.1.cls idx y2 4) (ok : jx_ok R d2 y2.2.2.1) (hw : (rest.map fun v => v.category).sum ≤ 8) (h1 : kc + mc2 ≤ R.cells) (h2 : ks + ms2 ≤ R.slots) (ct : jx_Cr y2 G d2 [x1, x2, x3, x4] M sz mc2 ms2 (fun v M' sz' => jx_V y hh G R Q (pc + 3) l (v.toList ++ rest) M' sz' (kc + mc2) (ks + ms2))) : jx_V y hh G R Q pc l (x4 :: x3 :: x2 :: x1 :: rest) M sz kc ks := by
  intro p L e s m args below meth c CC K H locs ls hR hS hL
  obtain ⟨hx, hb, hr, hml, hown, hts, hlk, hnm, hex, hst⟩ := id CC
  refine jx_back CC K hS hL (va_runS (As := [x1, x2, x3, x4]) (rest := rest) (Ts := jx_tb) ⟨hx, hb, hml, hown, hts⟩ (ct L hst) ⟨jx_cb CC lk.1 ok, hts _ lk.2⟩ ⟨jx_blind, jx_pcU K hR hS⟩ rfl rfl hL.1 rfl (lv_room (m := m) (pc := pc) (ls := ls) (rest := rest) hw) dc ⟨h1, h2⟩) (fun v M' sz' h => h)
theorem jx_callV5 {x1 x2 x3 x4 x5 : Value} {b ci : Nat} {fs : List Value} {C : String} {T : u_T} {N : Nat} (dc : decode y.2.1 pc = .ok (.invokevirtual idx, 3)) (lk : jx_MV y.1.cls C idx y2 5) (hb0 : M b = some (.inl (ci, fs))) (hc0 : vwCl[ci]? = some (C, T, N)) (ok : jx_ok R d2 y2.2.2.1) (hw : (rest.map fun v => v.category).sum ≤ 8) (h1 : kc + mc2 ≤ R.cells) (h2 : ks + ms2 ≤ R.slots) (ct : jx_Cr y2 G d2 (.ref b :: [x1, x2, x3, x4, x5]) M sz mc2 ms2 (fun v M' sz' => jx_V y hh G R Q (pc + 3) l (v.toList ++ rest) M' sz' (kc + mc2) (ks + ms2))) : jx_V y hh G R Q pc l (x5 :: x4 :: x3 :: x2 :: x1 :: .ref b :: rest) M sz kc ks := by
  intro p L e s m args below meth c CC K H locs ls hR hS hL
  obtain ⟨hx, hb, hr, hml, hown, hts, hlk, hnm, hex, hst⟩ := id CC
  refine jx_back CC K hS hL (va_runV (As := [x1, x2, x3, x4, x5]) (b := b) (C := C) (rest := rest) (Ts := jx_tb) ⟨hx, hb, hml, hown, hts⟩ (ct L hst) ⟨jx_cb CC lk.1 ok, hts _ lk.2.1, hts _ lk.2.2⟩ ⟨jx_blind, jx_recv hR K hb0 hc0, jx_pcU K hR hS⟩ rfl rfl hL.1 rfl (lv_room (m := m) (pc := pc) (ls := ls) (rest := rest) hw) dc ⟨h1, h2⟩) (fun v M' sz' h => h)
theorem jx_callI5 {x1 x2 x3 x4 x5 : Value} {b : Nat} (dc : decode y.2.1 pc = .ok (.invokespecial idx, 3)) (lk : jx_MI y.1.cls idx y2 5) (ok : jx_ok R d2 y2.2.2.1) (hw : (rest.map fun v => v.category).sum ≤ 8) (h1 : kc + mc2 ≤ R.cells) (h2 : ks + ms2 ≤ R.slots) (ct : jx_Cr y2 G d2 (.ref b :: [x1, x2, x3, x4, x5]) M sz mc2 ms2 (fun v M' sz' => jx_V y hh G R Q (pc + 3) l (v.toList ++ rest) M' sz' (kc + mc2) (ks + ms2))) : jx_V y hh G R Q pc l (x5 :: x4 :: x3 :: x2 :: x1 :: .ref b :: rest) M sz kc ks := by
  intro p L e s m args below meth c CC K H locs ls hR hS hL
  obtain ⟨hx, hb, hr, hml, hown, hts, hlk, hnm, hex, hst⟩ := id CC
  have cb := jx_cb (mc2 := mc2) (ms2 := ms2) CC lk.1 ok
  rw [lk.2.2.2] at cb
  refine jx_back CC K hS hL (va_runI (As := [x1, x2, x3, x4, x5]) (b := b) (rest := rest) (Ts := jx_tb) ⟨hx, hb, hml, hown, hts⟩ (ct L hst) ⟨cb, lk.2.1, hts _ lk.2.2.1⟩ ⟨jx_blind, jx_pcU K hR hS⟩ rfl rfl hL.1 rfl (lv_room (m := m) (pc := pc) (ls := ls) (rest := rest) hw) dc ⟨h1, h2⟩) (fun v M' sz' h => h)
theorem jx_callS5 {x1 x2 x3 x4 x5 : Value} (dc : decode y.2.1 pc = .ok (.invokestatic idx, 3)) (lk : jx_MS y.1.cls idx y2 5) (ok : jx_ok R d2 y2.2.2.1) (hw : (rest.map fun v => v.category).sum ≤ 8) (h1 : kc + mc2 ≤ R.cells) (h2 : ks + ms2 ≤ R.slots) (ct : jx_Cr y2 G d2 [x1, x2, x3, x4, x5] M sz mc2 ms2 (fun v M' sz' => jx_V y hh G R Q (pc + 3) l (v.toList ++ rest) M' sz' (kc + mc2) (ks + ms2))) : jx_V y hh G R Q pc l (x5 :: x4 :: x3 :: x2 :: x1 :: rest) M sz kc ks := by
  intro p L e s m args below meth c CC K H locs ls hR hS hL
  obtain ⟨hx, hb, hr, hml, hown, hts, hlk, hnm, hex, hst⟩ := id CC
  refine jx_back CC K hS hL (va_runS (As := [x1, x2, x3, x4, x5]) (rest := rest) (Ts := jx_tb) ⟨hx, hb, hml, hown, hts⟩ (ct L hst) ⟨jx_cb CC lk.1 ok, hts _ lk.2⟩ ⟨jx_blind, jx_pcU K hR hS⟩ rfl rfl hL.1 rfl (lv_room (m := m) (pc := pc) (ls := ls) (rest := rest) hw) dc ⟨h1, h2⟩) (fun v M' sz' h => h)
theorem jx_callV6 {x1 x2 x3 x4 x5 x6 : Value} {b ci : Nat} {fs : List Value} {C : String} {T : u_T} {N : Nat} (dc : decode y.2.1 pc = .ok (.invokevirtual idx, 3)) (lk : jx_MV y.1.cls C idx y2 6) (hb0 : M b = some (.inl (ci, fs))) (hc0 : vwCl[ci]? = some (C, T, N)) (ok : jx_ok R d2 y2.2.2.1) (hw : (rest.map fun v => v.category).sum ≤ 8) (h1 : kc + mc2 ≤ R.cells) (h2 : ks + ms2 ≤ R.slots) (ct : jx_Cr y2 G d2 (.ref b :: [x1, x2, x3, x4, x5, x6]) M sz mc2 ms2 (fun v M' sz' => jx_V y hh G R Q (pc + 3) l (v.toList ++ rest) M' sz' (kc + mc2) (ks + ms2))) : jx_V y hh G R Q pc l (x6 :: x5 :: x4 :: x3 :: x2 :: x1 :: .ref b :: rest) M sz kc ks := by
  intro p L e s m args below meth c CC K H locs ls hR hS hL
  obtain ⟨hx, hb, hr, hml, hown, hts, hlk, hnm, hex, hst⟩ := id CC
  refine jx_back CC K hS hL (va_runV (As := [x1, x2, x3, x4, x5, x6]) (b := b) (C := C) (rest := rest) (Ts := jx_tb) ⟨hx, hb, hml, hown, hts⟩ (ct L hst) ⟨jx_cb CC lk.1 ok, hts _ lk.2.1, hts _ lk.2.2⟩ ⟨jx_blind, jx_recv hR K hb0 hc0, jx_pcU K hR hS⟩ rfl rfl hL.1 rfl (lv_room (m := m) (pc := pc) (ls := ls) (rest := rest) hw) dc ⟨h1, h2⟩) (fun v M' sz' h => h)
theorem jx_callI6 {x1 x2 x3 x4 x5 x6 : Value} {b : Nat} (dc : decode y.2.1 pc = .ok (.invokespecial idx, 3)) (lk : jx_MI y.1.cls idx y2 6) (ok : jx_ok R d2 y2.2.2.1) (hw : (rest.map fun v => v.category).sum ≤ 8) (h1 : kc + mc2 ≤ R.cells) (h2 : ks + ms2 ≤ R.slots) (ct : jx_Cr y2 G d2 (.ref b :: [x1, x2, x3, x4, x5, x6]) M sz mc2 ms2 (fun v M' sz' => jx_V y hh G R Q (pc + 3) l (v.toList ++ rest) M' sz' (kc + mc2) (ks + ms2))) : jx_V y hh G R Q pc l (x6 :: x5 :: x4 :: x3 :: x2 :: x1 :: .ref b :: rest) M sz kc ks := by
  intro p L e s m args below meth c CC K H locs ls hR hS hL
  obtain ⟨hx, hb, hr, hml, hown, hts, hlk, hnm, hex, hst⟩ := id CC
  have cb := jx_cb (mc2 := mc2) (ms2 := ms2) CC lk.1 ok
  rw [lk.2.2.2] at cb
  refine jx_back CC K hS hL (va_runI (As := [x1, x2, x3, x4, x5, x6]) (b := b) (rest := rest) (Ts := jx_tb) ⟨hx, hb, hml, hown, hts⟩ (ct L hst) ⟨cb, lk.2.1, hts _ lk.2.2.1⟩ ⟨jx_blind, jx_pcU K hR hS⟩ rfl rfl hL.1 rfl (lv_room (m := m) (pc := pc) (ls := ls) (rest := rest) hw) dc ⟨h1, h2⟩) (fun v M' sz' h => h)
theorem jx_callS6 {x1 x2 x3 x4 x5 x6 : Value} (dc : decode y.2.1 pc = .ok (.invokestatic idx, 3)) (lk : jx_MS y.1.cls idx y2 6) (ok : jx_ok R d2 y2.2.2.1) (hw : (rest.map fun v => v.category).sum ≤ 8) (h1 : kc + mc2 ≤ R.cells) (h2 : ks + ms2 ≤ R.slots) (ct : jx_Cr y2 G d2 [x1, x2, x3, x4, x5, x6] M sz mc2 ms2 (fun v M' sz' => jx_V y hh G R Q (pc + 3) l (v.toList ++ rest) M' sz' (kc + mc2) (ks + ms2))) : jx_V y hh G R Q pc l (x6 :: x5 :: x4 :: x3 :: x2 :: x1 :: rest) M sz kc ks := by
  intro p L e s m args below meth c CC K H locs ls hR hS hL
  obtain ⟨hx, hb, hr, hml, hown, hts, hlk, hnm, hex, hst⟩ := id CC
  refine jx_back CC K hS hL (va_runS (As := [x1, x2, x3, x4, x5, x6]) (rest := rest) (Ts := jx_tb) ⟨hx, hb, hml, hown, hts⟩ (ct L hst) ⟨jx_cb CC lk.1 ok, hts _ lk.2⟩ ⟨jx_blind, jx_pcU K hR hS⟩ rfl rfl hL.1 rfl (lv_room (m := m) (pc := pc) (ls := ls) (rest := rest) hw) dc ⟨h1, h2⟩) (fun v M' sz' h => h)
end JXK
end
section
/-! PART 05: the heap's instructions over pictures -/
/-- what the tables say of a field's link: class number k, field i -/
def jx_GF (own : String) (idx k i : Nat) : Prop := ∃ (C : String) (T : u_T) (N : Nat) (ref : String), vwCl[k]? = some (C, T, N) ∧ i < N ∧ (∀ w ∈ u_ws C T N, w ∈ jx_tb) ∧ Cond.fieldLink own idx ref (T i).2.1 (T i).2.2.1 ∈ jx_tb ∧ ((T i).1 = ref ∨ Cond.sameField ref (T i).1 (T i).2.1 (T i).2.2.1 ∈ jx_tb)
/-- and of one that is written: its type; final ones in a constructor of the declarer alone -/
def jx_PF (own nm : String) (idx k i : Nat) (ty : FieldType) : Prop := ∃ (C : String) (T : u_T) (N : Nat) (ref : String) (ty0 : Nat → FieldType), vwCl[k]? = some (C, T, N) ∧ i < N ∧ (∀ w ∈ u_ws C T N, w ∈ jx_tb) ∧ Cond.fieldLink own idx ref (T i).2.1 (T i).2.2.1 ∈ jx_tb ∧ ((T i).1 = ref ∨ Cond.sameField ref (T i).1 (T i).2.1 (T i).2.2.1 ∈ jx_tb) ∧
  (∀ j, j < N → parseFieldDescriptor (T j).2.2.1 = some (ty0 j)) ∧ (∀ a, a < N → ∀ b, b < N → a ≠ b → (T a).2.1 ≠ (T b).2.1) ∧ parseFieldDescriptor (T i).2.2.1 = some ty ∧ ((T i).2.2.2 = false ∨ ((T i).2.2.2 = true ∧ nm = "<init>" ∧ (T i).1 = own))
theorem jx_same {s : State} {args : Array Value} {ref o n d : String} (hts : ∀ w ∈ jx_tb, w.before args s = true) (h : o = ref ∨ Cond.sameField ref o n d ∈ jx_tb) : ∀ x, s.fieldFound? o n d = some x → s.fieldFound? ref n d = some x := by
  intro x hx
  rcases h with h | h
  · rw [← h]; exact hx
  · exact u_same (hts _ h) x hx
theorem jx_one {G : jx_G} {M : jx_H} {sz : Nat} {H : Heap} {a : Nat} {e : jx_E} (hR : jx_R G M sz H) (h : M a = some e) : va_P (jx_D G) vwCl [(a, jx_we G e)] H := fun k q hq => by
  match k, hq with
  | 0, hq => cases hq; exact (hR.2.2 a _ h).2
  | k + 1, hq => simp at hq
theorem jx_tyat {G : jx_G} {t0 ak : Nat} {ty : FieldType} (h : jx_ats[t0]? = some (ak, ty)) : (jx_ty G)[t0]? = some ((jx_D G).1 ak, ty) := by
  simp [jx_ty, h]
theorem jx_oi : Cond.instanceMethod Lib.objectInit ∈ jx_tb := jx_mem 28 (by decide +kernel) rfl
theorem jx_oc : Cond.code Lib.objectInit ⟨#[0xb1]⟩ 1 none ∈ jx_tb := jx_mem 29 (by decide +kernel) rfl
section JXH
variable {y : jx_md} {hh : jx_h4} {G : jx_G} {R : Room} {Q : Array Value → State → List Frame → State → Prop} {pc : Nat} {l : List (Option Value)} {st : List Value} {M : jx_H} {sz kc ks a k i : Nat} {fs : List Value}
theorem jx_getf {idx : Nat} {v : Value} (dc : decode y.2.1 pc = .ok (.getfield idx, 3)) (lk : jx_GF y.1.cls idx k i) (hM : M a = some (.inl (k, fs))) (hv : fs[i]? = some v) (kk : jx_V y hh G R Q (pc + 3) l (v :: st) M sz kc ks) : jx_V y hh G R Q pc l (.ref a :: st) M sz kc ks := by
  intro p L e s m args below meth c C K H locs ls hR hS hL
  obtain ⟨hx, hb, hr, hml, hown, hts, hlk, hnm, hex, hst⟩ := id C
  obtain ⟨C0, T, N, ref, h1, h2, h3, h4, h5⟩ := lk
  exact va_get hx hb hts h3 hown K.1 (jx_one hR hM) 0 rfl h1 i h2 (hts _ h4) (jx_same hts h5) hv dc (kk p L e s m args below meth c C K H locs ls hR hS hL)
theorem jx_putf {idx : Nat} {v : Value} {ty : FieldType} (dc : decode y.2.1 pc = .ok (.putfield idx, 3)) (lk : jx_PF y.1.cls y.1.name idx k i ty) (hM : M a = some (.inl (k, fs))) (hl : i < fs.length) (hn : narrow ty v = v) (hf : fits ty v = true) (kk : jx_V y hh G R Q (pc + 3) l st (jx_up M a (.inl (k, fs.set i v))) sz kc ks) : jx_V y hh G R Q pc l (v :: .ref a :: st) M sz kc ks := by
  intro p L e s m args below meth c C K H locs ls hR hS hL
  obtain ⟨hx, hb, hr, hml, hown, hts, hlk, hnm, hex, hst⟩ := id C
  obtain ⟨C0, T, N, ref, ty0, h1, h2, h3, h4, h5, h6, h7, h8, h9⟩ := lk
  have hP := jx_one hR hM
  have hap := va_apart (own := y.1.cls) hts h3 ty0 h6 h7 K.1 h1
  obtain ⟨r, g1, cell, q1, q2, q3, q4⟩ := hP 0 _ rfl
  have hr0 : r = (C0, T, N) := Option.some.inj (g1.symm.trans h1)
  subst hr0
  obtain ⟨hSl, hfc, kC, hkC, hkind⟩ := K.1.1 k _ h1
  obtain ⟨cf, kf, fi, f, hi, hsl⟩ := hSl i h2
  have hst := (u_facts hfc hkC (u_lays hts h3 h2) hi).1
  have hB : jx_B G ≤ a := (hR.2.2 a _ hM).1
  have hfin : hasFlag f.accessFlags Acc.final = false ∨ (m.cls = cf ∧ meth.name = "<init>") := by
    rcases h9 with h9 | ⟨h9, h10, h11⟩
    · have hlay := hts _ (h3 _ (u_in_lay h2))
      unfold u_lay at hlay
      rw [if_neg (by rw [h9]; decide)] at hlay
      exact Or.inl (u_store hfc hkC hkind hlay hi h8 hn hf).1
    · right
      refine ⟨?_, by rw [hnm]; exact h10⟩
      have hlay := hts _ (h3 _ (u_in_lay h2))
      unfold u_lay at hlay
      rw [if_pos h9] at hlay
      obtain ⟨_, _, c', _, _, _, -, -, hf', -, -, -, hown2, -⟩ := Cond.laysFinal_spec hlay
      have e1 : c' = cf := by have := hi.symm.trans hf'; simp at this; exact this.1.symm
      rw [h11] at hown2
      rw [← e1]; exact Option.some.inj (hown.symm.trans hown2)
  have h6' := u_fits hfc hkC hkind (u_lays hts h3 h2) hi h8 hn hf
  have hslt : f.slot < cell.slots.size := by rw [hsl]; exact k2_hasslot (q4 i h2)
  refine W.putf hx hb hown (hts _ h4) (jx_same hts h5 _ hi) hst hfin q1 (by rw [q3]; exact fun h => by cases h) hslt h6'.1 (by rw [q2, q3]; exact h6'.2) rfl rfl dc ?_
  have ha : a < H.size := (Array.getElem?_eq_some_iff.mp q1).1
  have e1 : (H.setIfInBounds a (cell.setSlot f.slot v))[a]? = some (cell.setSlot f.slot v) := by simp [ha]
  have e2 : (H.setIfInBounds a (cell.setSlot f.slot v)).size = H.size := by simp
  have e3 : ∀ q : Nat, q ≠ a → (H.setIfInBounds a (cell.setSlot f.slot v))[q]? = H[q]? := fun q hq => Array.getElem?_setIfInBounds_ne (fun z => hq z.symm)
  generalize H.setIfInBounds a (cell.setSlot f.slot v) = H' at e1 e2 e3 ⊢
  rw [hsl] at e1 ⊢
  exact kk p L e s m args below meth c C K H' _ ls (hR.set hB e2 e3 ⟨_, h1, t_OB.to (V := updV (vp_V fs) i v) ⟨_, e1, q2, q3, t_set q4 hap h2 v⟩ (fun j _ => vp_updV_set hl v j)⟩) (hS.put e2 e3 hB) hL
theorem jx_iald {ak n t0 : Nat} {f : Nat → Int32} {j : Int32} (dc : decode y.2.1 pc = .ok (.iaload, 1)) (hM : M a = some (.inr (ak, n, .inl f))) (ht : jx_ats[t0]? = some (ak, .int)) (hj : vp_in j n) (kk : jx_V y hh G R Q (pc + 1) l (.int (f j.toNatClampNeg) :: st) M sz kc ks) : jx_V y hh G R Q pc l (.int j :: .ref a :: st) M sz kc ks := by
  intro p L e s m args below meth c C K H locs ls hR hS hL
  obtain ⟨hx, hb, hr, hml, hown, hts, hlk, hnm, hex, hst⟩ := id C
  exact va_iald hx hb K.1 (jx_one hR hM) 0 t0 rfl (jx_tyat ht) hj dc (kk p L e s m args below meth c C K H locs ls hR hS hL)
theorem jx_lald {ak n t0 : Nat} {f : Nat → Int64} {j : Int32} (dc : decode y.2.1 pc = .ok (.laload, 1)) (hM : M a = some (.inr (ak, n, .inr (.inl f)))) (ht : jx_ats[t0]? = some (ak, .long)) (hj : vp_in j n) (kk : jx_V y hh G R Q (pc + 1) l (.long (f j.toNatClampNeg) :: st) M sz kc ks) : jx_V y hh G R Q pc l (.int j :: .ref a :: st) M sz kc ks := by
  intro p L e s m args below meth c C K H locs ls hR hS hL
  obtain ⟨hx, hb, hr, hml, hown, hts, hlk, hnm, hex, hst⟩ := id C
  exact va_lald hx hb K.1 (jx_one hR hM) 0 t0 rfl (jx_tyat ht) hj dc (kk p L e s m args below meth c C K H locs ls hR hS hL)
theorem jx_aald {ak n t0 : Nat} {f : Nat → Option Nat} {CC : String} {j : Int32} (dc : decode y.2.1 pc = .ok (.aaload, 1)) (hM : M a = some (.inr (ak, n, .inr (.inr (.inr (.inr f)))))) (ht : jx_ats[t0]? = some (ak, .object CC)) (hj : vp_in j n) (kk : jx_V y hh G R Q (pc + 1) l (va_rf (f j.toNatClampNeg) :: st) M sz kc ks) : jx_V y hh G R Q pc l (.int j :: .ref a :: st) M sz kc ks := by
  intro p L e s m args below meth c C K H locs ls hR hS hL
  obtain ⟨hx, hb, hr, hml, hown, hts, hlk, hnm, hex, hst⟩ := id C
  exact va_aldq hx hb K.1 (jx_one hR hM) 0 t0 rfl (jx_tyat ht) hj dc (kk p L e s m args below meth c C K H locs ls hR hS hL)
theorem jx_alen {ak t0 : Nat} {x : vp_A} {ty : FieldType} (dc : decode y.2.1 pc = .ok (.arraylength, 1)) (hM : M a = some (.inr (ak, x))) (ht : jx_ats[t0]? = some (ak, ty)) (kk : jx_V y hh G R Q (pc + 1) l (.int (nI x.1) :: st) M sz kc ks) : jx_V y hh G R Q pc l (.ref a :: st) M sz kc ks := by
  intro p L e s m args below meth c C K H locs ls hR hS hL
  obtain ⟨hx, hb, hr, hml, hown, hts, hlk, hnm, hex, hst⟩ := id C
  exact va_alen hx hb K.1 (jx_one hR hM) 0 t0 rfl (jx_tyat ht) rfl dc (kk p L e s m args below meth c C K H locs ls hR hS hL)
theorem jx_iast {ak n t0 : Nat} {f : Nat → Int32} {j x : Int32} (dc : decode y.2.1 pc = .ok (.iastore, 1)) (hM : M a = some (.inr (ak, n, .inl f))) (ht : jx_ats[t0]? = some (ak, .int)) (hj : vp_in j n) (kk : jx_V y hh G R Q (pc + 1) l st (jx_up M a (.inr (ak, n, .inl (upd f j.toNatClampNeg x)))) sz kc ks) : jx_V y hh G R Q pc l (.int x :: .int j :: .ref a :: st) M sz kc ks := by
  intro p L e s m args below meth c C K H locs ls hR hS hL
  obtain ⟨hx, hb, hr, hml, hown, hts, hlk, hnm, hex, hst⟩ := id C
  have hB : jx_B G ≤ a := (hR.2.2 a _ hM).1
  refine W.iast hx hb (hR.2.2 a _ hM).2 ((K.1.2 t0 _ (jx_tyat ht)).1 n (fun j => .int (f j))) (fun q => by cases q) (by show ¬ (j < 0 ∨ (arrV _ _ _).slots.size ≤ _); rw [arrV_size]; exact hj) rfl rfl dc fun H1 e1 z oq => ?_
  refine kk p L e s m args below meth c C K H1 _ ls (hR.set hB z oq ?_) (hS.put z oq hB) hL
  show H1[a]? = some (arrV ((jx_D G).1 ak) n (fun q => Value.int (upd f j.toNatClampNeg x q)))
  rw [e1]
  show some ((arrV ((jx_D G).1 ak) n (fun q => Value.int (f q))).setSlot _ _) = _
  rw [arrV_store]
  congr 2
  funext q
  by_cases hq : q = j.toNatClampNeg
  · subst hq
    simp [updV, upd]
  · simp [updV, upd, hq]
theorem jx_last {ak n t0 : Nat} {f : Nat → Int64} {j : Int32} {x : Int64} (dc : decode y.2.1 pc = .ok (.lastore, 1)) (hM : M a = some (.inr (ak, n, .inr (.inl f)))) (ht : jx_ats[t0]? = some (ak, .long)) (hj : vp_in j n) (kk : jx_V y hh G R Q (pc + 1) l st (jx_up M a (.inr (ak, n, .inr (.inl (vp_updL f j.toNatClampNeg x))))) sz kc ks) : jx_V y hh G R Q pc l (.long x :: .int j :: .ref a :: st) M sz kc ks := by
  intro p L e s m args below meth c C K H locs ls hR hS hL
  obtain ⟨hx, hb, hr, hml, hown, hts, hlk, hnm, hex, hst⟩ := id C
  have hB : jx_B G ≤ a := (hR.2.2 a _ hM).1
  refine W.last hx hb (hR.2.2 a _ hM).2 ((K.1.2 t0 _ (jx_tyat ht)).1 n (fun j => .long (f j))) (fun q => by cases q) (by show ¬ (j < 0 ∨ (arrV _ _ _).slots.size ≤ _); rw [arrV_size]; exact hj) rfl rfl dc fun H1 e1 z oq => ?_
  refine kk p L e s m args below meth c C K H1 _ ls (hR.set hB z oq ?_) (hS.put z oq hB) hL
  show H1[a]? = some (arrV ((jx_D G).1 ak) n (fun q => Value.long (vp_updL f j.toNatClampNeg x q)))
  rw [e1]
  show some ((arrV ((jx_D G).1 ak) n (fun q => Value.long (f q))).setSlot _ _) = _
  rw [arrV_store]
  congr 2
  funext q
  by_cases hq : q = j.toNatClampNeg
  · subst hq
    simp [updV, vp_updL]
  · simp [updV, vp_updL, hq]
/-- a new object of class number k -/
theorem jx_new {idx : Nat} {C0 : String} {T : u_T} {N : Nat} (ty : Nat → FieldType) (dc : decode y.2.1 pc = .ok (.new idx, 3)) (h1 : vwCl[k]? = some (C0, T, N)) (h2 : ∀ w ∈ u_ws C0 T N, w ∈ jx_tb) (h3 : ∀ j, j < N → parseFieldDescriptor (T j).2.2.1 = some (ty j)) (h4 : Cond.classLink y.1.cls idx C0 ∈ jx_tb) (h5 : Cond.instantiable C0 N ∈ jx_tb) (h6 : Cond.initialized C0 ∈ jx_tb) (h7 : ∀ j, j < N → defaultValue (ty j) = vp_V fs j) (hc : kc + 1 ≤ R.cells) (hs : ks + N ≤ R.slots)
    (kk : M sz = none → jx_V y hh G R Q (pc + 3) l (.ref sz :: st) (jx_up M sz (.inl (k, fs))) (sz + 1) (kc + 1) (ks + N)) : jx_V y hh G R Q pc l st M sz kc ks := by
  intro p L e s m args below meth c C K H locs ls hR hS hL
  obtain ⟨hx, hb, hr, hml, hown, hts, hlk, hnm, hex, hst⟩ := id C
  have hKn := K.1.1 k _ h1
  have hno : M sz = none := by
    cases h : M sz with
    | none => rfl
    | some e => exact absurd (hR.lt h) (Nat.lt_irrefl _)
  refine W.newcK hx hb hown (hts _ h4) (hts _ h5) (hts _ h6) rfl dc hc hs hKn.2.1 hR.1 fun H1 kC hkC e1 z1 o1 => ?_
  exact kk hno p L e s m args below meth c C K H1 locs ls (hR.push z1 o1 ⟨_, h1, (u_born ty hts h2 hKn hkC e1 h3).to h7⟩) (hS.push hR.1 hR.2.1 z1 o1) hL
theorem jx_newa {atype : ArrayType} {ak t0 N : Nat} {ty : FieldType} {n : Int32} {a0 : vp_A} (dc : decode y.2.1 pc = .ok (.newarray atype, 2)) (hty : newarray.typeOf atype = ty) (hw : Cond.arrayClass ty ∈ jx_tb) (ht : jx_ats[t0]? = some (ak, ty)) (ha : ∀ cA : ClassId, vp_cell cA a0 = arrV cA N (fun _ => defaultValue ty)) (hn : ¬ n < 0) (hN : n.toNatClampNeg = N) (hbytes : N * componentBytes ty ≤ 536870912) (hc : kc + 1 ≤ R.cells) (hs : ks + N ≤ R.slots)
    (kk : M sz = none → jx_V y hh G R Q (pc + 2) l (.ref sz :: st) (jx_up M sz (.inr (ak, a0))) (sz + 1) (kc + 1) (ks + N)) : jx_V y hh G R Q pc l (.int n :: st) M sz kc ks := by
  intro p L e s m args below meth c C K H locs ls hR hS hL
  obtain ⟨hx, hb, hr, hml, hown, hts, hlk, hnm, hex, hst⟩ := id C
  subst hty
  have hno : M sz = none := by
    cases h : M sz with
    | none => rfl
    | some e => exact absurd (hR.lt h) (Nat.lt_irrefl _)
  refine va_newaK hx hb (hts _ hw) rfl dc rfl hn hN hbytes hc hs hR.1 fun H1 cA e1 z1 o1 hAr hNm => ?_
  have hcA : cA = (jx_D G).1 ak := by
    have h := (K.1.2 t0 _ (jx_tyat ht)).2
    cases atype <;> exact Option.some.inj (hNm.symm.trans h)
  refine kk hno p L e s m args below meth c C K H1 locs ls (hR.push z1 o1 ?_) (hS.push hR.1 hR.2.1 z1 o1) hL
  show H1[sz]? = some (vp_cell _ _)
  rw [ha, ← hcA]
  exact e1
theorem jx_cast {idx : Nat} {C0 nm : String} {T : u_T} {N : Nat} (dc : decode y.2.1 pc = .ok (.checkcast idx, 3)) (hM : M a = some (.inl (k, fs))) (h1 : vwCl[k]? = some (C0, T, N)) (h2 : Cond.classLink y.1.cls idx nm ∈ jx_tb) (h3 : Cond.castable C0 nm ∈ jx_tb) (kk : jx_V y hh G R Q (pc + 3) l (.ref a :: st) M sz kc ks) : jx_V y hh G R Q pc l (.ref a :: st) M sz kc ks := by
  intro p L e s m args below meth c C K H locs ls hR hS hL
  obtain ⟨hx, hb, hr, hml, hown, hts, hlk, hnm, hex, hst⟩ := id C
  exact va_castY hx hb hown (hts _ h2) (va_Nw.of rfl (hts _ h3)) (jx_recv hR K hM h1) dc (kk p L e s m args below meth c C K H locs ls hR hS hL)
theorem jx_objInit {idx : Nat} (dc : decode y.2.1 pc = .ok (.invokespecial idx, 3)) (lk : Cond.methodLink y.1.cls idx Lib.objectInit ∈ jx_tb) (h1 : 1 ≤ R.frames) (h2 : (st.map fun v => v.category).sum + 12 ≤ R.locals) (kk : jx_V y hh G R Q (pc + 3) l st M sz kc ks) : jx_V y hh G R Q pc l (.ref a :: st) M sz kc ks := by
  intro p L e s m args below meth c C K H locs ls hR hS hL
  obtain ⟨hx, hb, hr, hml, hown, hts, hlk, hnm, hex, hst⟩ := id C
  refine W.objInit hx hb hown (hts _ lk) (hts _ jx_oi) (hts _ jx_oc) rfl (by rw [hml]; exact hL.1) rfl dc h1 (by show 2 * 0 + _ + 12 ≤ _; omega) ?_
  exact kk p L e s m args below meth c C K H locs ls hR hS hL
end JXH
end
section
theorem mo_K_1 : Cond.methodLink "KeyedFolds" 1 Lib.objectInit ∈ jx_tb := (jx_mem 27 (by decide +kernel) rfl)
theorem nk_K_7 : Cond.classLink "KeyedFolds" 7 nc_A ∈ jx_tb := (jx_mem 30 (by decide +kernel) rfl)
theorem mi_K_9 : jx_MI "KeyedFolds" 9 md_A_init 0 := ⟨⟨(jx_mem 32 (by decide +kernel) rfl), (jx_mem 34 (by decide +kernel) rfl), (jx_mem 4 (by decide +kernel) rfl), (by decide +kernel), (by decide +kernel)⟩, rfl, (jx_mem 33 (by decide +kernel) rfl), rfl⟩
theorem pf_K_10 : jx_PF "KeyedFolds" "<init>" 10 4 4 (.object "java/util/ArrayList") := ⟨nc_K, nf_K, 18, "KeyedFolds", nt_K, rfl, by decide, nw_K, (jx_mem 105 (by decide +kernel) rfl), (Or.inl rfl), no_K, nn_K, rfl, (Or.inr ⟨rfl, rfl, rfl⟩)⟩
theorem pf_K_16 : jx_PF "KeyedFolds" "<init>" 16 4 5 (.object "java/util/ArrayList") := ⟨nc_K, nf_K, 18, "KeyedFolds", nt_K, rfl, by decide, nw_K, (jx_mem 106 (by decide +kernel) rfl), (Or.inl rfl), no_K, nn_K, rfl, (Or.inr ⟨rfl, rfl, rfl⟩)⟩
theorem nk_K_19 : Cond.classLink "KeyedFolds" 19 nc_S ∈ jx_tb := (jx_mem 56 (by decide +kernel) rfl)
theorem pf_K_22 : jx_PF "KeyedFolds" "<init>" 22 4 6 (.object "KeyedFolds$StoppedKeys") := ⟨nc_K, nf_K, 18, "KeyedFolds", nt_K, rfl, by decide, nw_K, (jx_mem 107 (by decide +kernel) rfl), (Or.inl rfl), no_K, nn_K, rfl, (Or.inr ⟨rfl, rfl, rfl⟩)⟩
theorem nk_K_26 : Cond.classLink "KeyedFolds" 26 nc_T ∈ jx_tb := (jx_mem 70 (by decide +kernel) rfl)
theorem mi_K_28 : jx_MI "KeyedFolds" 28 md_T_init 2 := ⟨⟨(jx_mem 72 (by decide +kernel) rfl), (jx_mem 74 (by decide +kernel) rfl), (jx_mem 6 (by decide +kernel) rfl), (by decide +kernel), (by decide +kernel)⟩, rfl, (jx_mem 73 (by decide +kernel) rfl), rfl⟩
theorem pf_K_31 : jx_PF "KeyedFolds" "<init>" 31 4 7 (.object "KeyedFolds$Table") := ⟨nc_K, nf_K, 18, "KeyedFolds", nt_K, rfl, by decide, nw_K, (jx_mem 108 (by decide +kernel) rfl), (Or.inl rfl), no_K, nn_K, rfl, (Or.inr ⟨rfl, rfl, rfl⟩)⟩
theorem pf_K_35 : jx_PF "KeyedFolds" "<init>" 35 4 8 (.object "KeyedFolds$Table") := ⟨nc_K, nf_K, 18, "KeyedFolds", nt_K, rfl, by decide, nw_K, (jx_mem 109 (by decide +kernel) rfl), (Or.inl rfl), no_K, nn_K, rfl, (Or.inr ⟨rfl, rfl, rfl⟩)⟩
theorem pf_K_38 {nm : String} : jx_PF "KeyedFolds" nm 38 4 9 .int := ⟨nc_K, nf_K, 18, "KeyedFolds", nt_K, rfl, by decide, nw_K, (jx_mem 110 (by decide +kernel) rfl), (Or.inl rfl), no_K, nn_K, rfl, (Or.inl rfl)⟩
theorem pf_K_42 {nm : String} : jx_PF "KeyedFolds" nm 42 4 10 .int := ⟨nc_K, nf_K, 18, "KeyedFolds", nt_K, rfl, by decide, nw_K, (jx_mem 111 (by decide +kernel) rfl), (Or.inl rfl), no_K, nn_K, rfl, (Or.inl rfl)⟩
theorem nv_K_45 : Jvm.Cond.constantLong "KeyedFolds" 45 (-1) ∈ jx_tb := (jx_mem 90 (by decide +kernel) rfl)
theorem pf_K_47 {nm : String} : jx_PF "KeyedFolds" nm 47 4 11 .long := ⟨nc_K, nf_K, 18, "KeyedFolds", nt_K, rfl, by decide, nw_K, (jx_mem 112 (by decide +kernel) rfl), (Or.inl rfl), no_K, nn_K, rfl, (Or.inl rfl)⟩
theorem pf_K_51 {nm : String} : jx_PF "KeyedFolds" nm 51 4 12 .long := ⟨nc_K, nf_K, 18, "KeyedFolds", nt_K, rfl, by decide, nw_K, (jx_mem 113 (by decide +kernel) rfl), (Or.inl rfl), no_K, nn_K, rfl, (Or.inl rfl)⟩
theorem pf_K_54 {nm : String} : jx_PF "KeyedFolds" nm 54 4 13 .int := ⟨nc_K, nf_K, 18, "KeyedFolds", nt_K, rfl, by decide, nw_K, (jx_mem 114 (by decide +kernel) rfl), (Or.inl rfl), no_K, nn_K, rfl, (Or.inl rfl)⟩
theorem pf_K_57 {nm : String} : jx_PF "KeyedFolds" nm 57 4 14 .int := ⟨nc_K, nf_K, 18, "KeyedFolds", nt_K, rfl, by decide, nw_K, (jx_mem 115 (by decide +kernel) rfl), (Or.inl rfl), no_K, nn_K, rfl, (Or.inl rfl)⟩
theorem pf_K_60 {nm : String} : jx_PF "KeyedFolds" nm 60 4 15 .int := ⟨nc_K, nf_K, 18, "KeyedFolds", nt_K, rfl, by decide, nw_K, (jx_mem 116 (by decide +kernel) rfl), (Or.inl rfl), no_K, nn_K, rfl, (Or.inl rfl)⟩
theorem pf_K_63 {nm : String} : jx_PF "KeyedFolds" nm 63 4 16 .int := ⟨nc_K, nf_K, 18, "KeyedFolds", nt_K, rfl, by decide, nw_K, (jx_mem 117 (by decide +kernel) rfl), (Or.inl rfl), no_K, nn_K, rfl, (Or.inl rfl)⟩
theorem pf_K_66 {nm : String} : jx_PF "KeyedFolds" nm 66 4 17 .int := ⟨nc_K, nf_K, 18, "KeyedFolds", nt_K, rfl, by decide, nw_K, (jx_mem 118 (by decide +kernel) rfl), (Or.inl rfl), no_K, nn_K, rfl, (Or.inl rfl)⟩
theorem ms_K_69 : jx_MS "KeyedFolds" 69 md_K_withinSettings 1 := ⟨⟨(jx_mem 91 (by decide +kernel) rfl), (jx_mem 93 (by decide +kernel) rfl), (jx_mem 1 (by decide +kernel) rfl), (by decide +kernel), (by decide +kernel)⟩, (jx_mem 92 (by decide +kernel) rfl)⟩
theorem pf_K_73 : jx_PF "KeyedFolds" "<init>" 73 4 0 .int := ⟨nc_K, nf_K, 18, "KeyedFolds", nt_K, rfl, by decide, nw_K, (jx_mem 101 (by decide +kernel) rfl), (Or.inl rfl), no_K, nn_K, rfl, (Or.inr ⟨rfl, rfl, rfl⟩)⟩
theorem pf_K_76 : jx_PF "KeyedFolds" "<init>" 76 4 1 .int := ⟨nc_K, nf_K, 18, "KeyedFolds", nt_K, rfl, by decide, nw_K, (jx_mem 102 (by decide +kernel) rfl), (Or.inl rfl), no_K, nn_K, rfl, (Or.inr ⟨rfl, rfl, rfl⟩)⟩
theorem pf_K_79 : jx_PF "KeyedFolds" "<init>" 79 4 2 .int := ⟨nc_K, nf_K, 18, "KeyedFolds", nt_K, rfl, by decide, nw_K, (jx_mem 103 (by decide +kernel) rfl), (Or.inl rfl), no_K, nn_K, rfl, (Or.inr ⟨rfl, rfl, rfl⟩)⟩
theorem pf_K_82 : jx_PF "KeyedFolds" "<init>" 82 4 3 .int := ⟨nc_K, nf_K, 18, "KeyedFolds", nt_K, rfl, by decide, nw_K, (jx_mem 104 (by decide +kernel) rfl), (Or.inl rfl), no_K, nn_K, rfl, (Or.inr ⟨rfl, rfl, rfl⟩)⟩
theorem mi_A_1 : jx_MI "java/util/ArrayList" 1 md_AL_init 0 := ⟨⟨(jx_mem 35 (by decide +kernel) rfl), (jx_mem 37 (by decide +kernel) rfl), (jx_mem 3 (by decide +kernel) rfl), (by decide +kernel), (by decide +kernel)⟩, rfl, (jx_mem 36 (by decide +kernel) rfl), rfl⟩
theorem pf_A_9 {nm : String} : jx_PF "java/util/ArrayList" nm 9 6 1 (.array (.object "java/lang/Object")) := ⟨nc_A, nf_A, 3, "java/util/ArrayList", nt_A, rfl, by decide, nw_A, (jx_mem 44 (by decide +kernel) rfl), (Or.inl rfl), no_A, nn_A, rfl, (Or.inl rfl)⟩
theorem mi_AL_1 : jx_MI "java/util/AbstractList" 1 md_AC_init 0 := ⟨⟨(jx_mem 38 (by decide +kernel) rfl), (jx_mem 40 (by decide +kernel) rfl), (jx_mem 2 (by decide +kernel) rfl), (by decide +kernel), (by decide +kernel)⟩, rfl, (jx_mem 39 (by decide +kernel) rfl), rfl⟩
theorem pf_AL_7 {nm : String} : jx_PF "java/util/AbstractList" nm 7 6 0 .int := ⟨nc_A, nf_A, 3, "java/util/AbstractList", nt_A, rfl, by decide, nw_A, (jx_mem 46 (by decide +kernel) rfl), (Or.inl rfl), no_A, nn_A, rfl, (Or.inl rfl)⟩
theorem mo_AC_1 : Cond.methodLink "java/util/AbstractCollection" 1 Lib.objectInit ∈ jx_tb := (jx_mem 41 (by decide +kernel) rfl)
theorem mo_S_3 : Cond.methodLink "KeyedFolds$StoppedKeys" 3 Lib.objectInit ∈ jx_tb := (jx_mem 61 (by decide +kernel) rfl)
theorem pf_S_9 : jx_PF "KeyedFolds$StoppedKeys" "<init>" 9 2 0 (.array .long) := ⟨nc_S, nf_S, 2, "KeyedFolds$StoppedKeys", nt_S, rfl, by decide, nw_S, (jx_mem 62 (by decide +kernel) rfl), (Or.inl rfl), no_S, nn_S, rfl, (Or.inr ⟨rfl, rfl, rfl⟩)⟩
theorem pf_S_15 {nm : String} : jx_PF "KeyedFolds$StoppedKeys" nm 15 2 1 .int := ⟨nc_S, nf_S, 2, "KeyedFolds$StoppedKeys", nt_S, rfl, by decide, nw_S, (jx_mem 63 (by decide +kernel) rfl), (Or.inl rfl), no_S, nn_S, rfl, (Or.inl rfl)⟩
theorem mo_T_3 : Cond.methodLink "KeyedFolds$Table" 3 Lib.objectInit ∈ jx_tb := (jx_mem 75 (by decide +kernel) rfl)
theorem pf_T_9 {nm : String} : jx_PF "KeyedFolds$Table" nm 9 3 0 .int := ⟨nc_T, nf_T, 4, "KeyedFolds$Table", nt_T, rfl, by decide, nw_T, (jx_mem 76 (by decide +kernel) rfl), (Or.inl rfl), no_T, nn_T, rfl, (Or.inl rfl)⟩
theorem pf_T_15 : jx_PF "KeyedFolds$Table" "<init>" 15 3 1 .int := ⟨nc_T, nf_T, 4, "KeyedFolds$Table", nt_T, rfl, by decide, nw_T, (jx_mem 78 (by decide +kernel) rfl), (Or.inl rfl), no_T, nn_T, rfl, (Or.inr ⟨rfl, rfl, rfl⟩)⟩
theorem pf_T_18 : jx_PF "KeyedFolds$Table" "<init>" 18 3 2 .int := ⟨nc_T, nf_T, 4, "KeyedFolds$Table", nt_T, rfl, by decide, nw_T, (jx_mem 79 (by decide +kernel) rfl), (Or.inl rfl), no_T, nn_T, rfl, (Or.inr ⟨rfl, rfl, rfl⟩)⟩
theorem pf_T_21 : jx_PF "KeyedFolds$Table" "<init>" 21 3 3 (.array .long) := ⟨nc_T, nf_T, 4, "KeyedFolds$Table", nt_T, rfl, by decide, nw_T, (jx_mem 80 (by decide +kernel) rfl), (Or.inl rfl), no_T, nn_T, rfl, (Or.inr ⟨rfl, rfl, rfl⟩)⟩
theorem nv_K_258 : Jvm.Cond.constant "KeyedFolds" 258 (100000) ∈ jx_tb := (jx_mem 94 (by decide +kernel) rfl)
theorem ms_K_259 : jx_MS "KeyedFolds" 259 md_MA_min 2 := ⟨⟨(jx_mem 95 (by decide +kernel) rfl), (jx_mem 97 (by decide +kernel) rfl), (jx_mem 7 (by decide +kernel) rfl), (by decide +kernel), (by decide +kernel)⟩, (jx_mem 96 (by decide +kernel) rfl)⟩
theorem ms_K_265 : jx_MS "KeyedFolds" 265 md_MA_max 2 := ⟨⟨(jx_mem 98 (by decide +kernel) rfl), (jx_mem 100 (by decide +kernel) rfl), (jx_mem 7 (by decide +kernel) rfl), (by decide +kernel), (by decide +kernel)⟩, (jx_mem 99 (by decide +kernel) rfl)⟩
theorem mv_L_7 : jx_MV "KeyedFoldsLaw" "KeyedFolds" 7 md_K_fold 3 := ⟨⟨(jx_mem 164 (by decide +kernel) rfl), (jx_mem 167 (by decide +kernel) rfl), (jx_mem 1 (by decide +kernel) rfl), (by decide +kernel), (by decide +kernel)⟩, (jx_mem 165 (by decide +kernel) rfl), (jx_mem 166 (by decide +kernel) rfl)⟩
theorem gf_K_10 : jx_GF "KeyedFolds" 10 4 4 := ⟨nc_K, nf_K, 18, "KeyedFolds", rfl, by decide, nw_K, (jx_mem 105 (by decide +kernel) rfl), (Or.inl rfl)⟩
theorem mv_K_92 : jx_MV "KeyedFolds" "java/util/ArrayList" 92 md_A_size 0 := ⟨⟨(jx_mem 236 (by decide +kernel) rfl), (jx_mem 239 (by decide +kernel) rfl), (jx_mem 4 (by decide +kernel) rfl), (by decide +kernel), (by decide +kernel)⟩, (jx_mem 237 (by decide +kernel) rfl), (jx_mem 238 (by decide +kernel) rfl)⟩
theorem gf_K_54 : jx_GF "KeyedFolds" 54 4 13 := ⟨nc_K, nf_K, 18, "KeyedFolds", rfl, by decide, nw_K, (jx_mem 114 (by decide +kernel) rfl), (Or.inl rfl)⟩
theorem nk_K_103 : Cond.classLink "KeyedFolds" 103 nc_F ∈ jx_tb := (jx_mem 257 (by decide +kernel) rfl)
theorem mi_K_105 : jx_MI "KeyedFolds" 105 md_F_init 3 := ⟨⟨(jx_mem 259 (by decide +kernel) rfl), (jx_mem 261 (by decide +kernel) rfl), (jx_mem 14 (by decide +kernel) rfl), (by decide +kernel), (by decide +kernel)⟩, rfl, (jx_mem 260 (by decide +kernel) rfl), rfl⟩
theorem mv_K_108 : jx_MV "KeyedFolds" "java/util/ArrayList" 108 md_A_add 1 := ⟨⟨(jx_mem 282 (by decide +kernel) rfl), (jx_mem 285 (by decide +kernel) rfl), (jx_mem 4 (by decide +kernel) rfl), (by decide +kernel), (by decide +kernel)⟩, (jx_mem 283 (by decide +kernel) rfl), (jx_mem 284 (by decide +kernel) rfl)⟩
theorem gf_A_48 : jx_GF "java/util/ArrayList" 48 6 2 := ⟨nc_A, nf_A, 3, "java/util/ArrayList", rfl, by decide, nw_A, (jx_mem 45 (by decide +kernel) rfl), (Or.inl rfl)⟩
theorem mo_F_3 : Cond.methodLink "KeyedFolds$Fold" 3 Lib.objectInit ∈ jx_tb := (jx_mem 262 (by decide +kernel) rfl)
theorem pf_F_9 {nm : String} : jx_PF "KeyedFolds$Fold" nm 9 0 3 .int := ⟨nc_F, nf_F, 5, "KeyedFolds$Fold", nt_F, rfl, by decide, nw_F, (jx_mem 268 (by decide +kernel) rfl), (Or.inl rfl), no_F, nn_F, rfl, (Or.inl rfl)⟩
theorem pf_F_15 : jx_PF "KeyedFolds$Fold" "<init>" 15 0 4 (.array .long) := ⟨nc_F, nf_F, 5, "KeyedFolds$Fold", nt_F, rfl, by decide, nw_F, (jx_mem 270 (by decide +kernel) rfl), (Or.inl rfl), no_F, nn_F, rfl, (Or.inr ⟨rfl, rfl, rfl⟩)⟩
theorem pf_F_19 : jx_PF "KeyedFolds$Fold" "<init>" 19 0 0 .int := ⟨nc_F, nf_F, 5, "KeyedFolds$Fold", nt_F, rfl, by decide, nw_F, (jx_mem 263 (by decide +kernel) rfl), (Or.inl rfl), no_F, nn_F, rfl, (Or.inr ⟨rfl, rfl, rfl⟩)⟩
theorem pf_F_22 : jx_PF "KeyedFolds$Fold" "<init>" 22 0 1 .long := ⟨nc_F, nf_F, 5, "KeyedFolds$Fold", nt_F, rfl, by decide, nw_F, (jx_mem 264 (by decide +kernel) rfl), (Or.inl rfl), no_F, nn_F, rfl, (Or.inr ⟨rfl, rfl, rfl⟩)⟩
theorem pf_F_26 : jx_PF "KeyedFolds$Fold" "<init>" 26 0 2 .long := ⟨nc_F, nf_F, 5, "KeyedFolds$Fold", nt_F, rfl, by decide, nw_F, (jx_mem 267 (by decide +kernel) rfl), (Or.inl rfl), no_F, nn_F, rfl, (Or.inr ⟨rfl, rfl, rfl⟩)⟩
theorem gf_A_63 : jx_GF "java/util/ArrayList" 63 6 0 := ⟨nc_A, nf_A, 3, "java/util/ArrayList", rfl, by decide, nw_A, (jx_mem 47 (by decide +kernel) rfl), (Or.inr (jx_mem 48 (by decide +kernel) rfl))⟩
theorem pf_A_63 {nm : String} : jx_PF "java/util/ArrayList" nm 63 6 0 .int := ⟨nc_A, nf_A, 3, "java/util/ArrayList", nt_A, rfl, by decide, nw_A, (jx_mem 47 (by decide +kernel) rfl), (Or.inr (jx_mem 48 (by decide +kernel) rfl)), no_A, nn_A, rfl, (Or.inl rfl)⟩
theorem gf_A_9 : jx_GF "java/util/ArrayList" 9 6 1 := ⟨nc_A, nf_A, 3, "java/util/ArrayList", rfl, by decide, nw_A, (jx_mem 44 (by decide +kernel) rfl), (Or.inl rfl)⟩
theorem mv_A_131 : jx_MV "java/util/ArrayList" "java/util/ArrayList" 131 md_A_add2 3 := ⟨⟨(jx_mem 286 (by decide +kernel) rfl), (jx_mem 289 (by decide +kernel) rfl), (jx_mem 4 (by decide +kernel) rfl), (by decide +kernel), (by decide +kernel)⟩, (jx_mem 288 (by decide +kernel) rfl), (jx_memp 1 (by decide +kernel) rfl)⟩
theorem mv_A_129 : jx_MV "java/util/ArrayList" "java/util/ArrayList" 129 md_A_grow 0 := ⟨⟨(jx_mem 290 (by decide +kernel) rfl), (jx_mem 293 (by decide +kernel) rfl), (jx_mem 4 (by decide +kernel) rfl), (by decide +kernel), (by decide +kernel)⟩, (jx_mem 292 (by decide +kernel) rfl), (jx_memp 2 (by decide +kernel) rfl)⟩
theorem pf_A_48 {nm : String} : jx_PF "java/util/ArrayList" nm 48 6 2 .int := ⟨nc_A, nf_A, 3, "java/util/ArrayList", nt_A, rfl, by decide, nw_A, (jx_mem 45 (by decide +kernel) rfl), (Or.inl rfl), no_A, nn_A, rfl, (Or.inl rfl)⟩
theorem mv_A_69 : jx_MV "java/util/ArrayList" "java/util/ArrayList" 69 md_A_grow2 1 := ⟨⟨(jx_mem 294 (by decide +kernel) rfl), (jx_mem 297 (by decide +kernel) rfl), (jx_mem 4 (by decide +kernel) rfl), (by decide +kernel), (by decide +kernel)⟩, (jx_mem 296 (by decide +kernel) rfl), (jx_memp 3 (by decide +kernel) rfl)⟩
theorem ms_A_73 : jx_MS "java/util/ArrayList" 73 md_AS_newLength 3 := ⟨⟨(jx_mem 298 (by decide +kernel) rfl), (jx_mem 300 (by decide +kernel) rfl), (jx_mem 15 (by decide +kernel) rfl), (by decide +kernel), (by decide +kernel)⟩, (jx_mem 299 (by decide +kernel) rfl)⟩
theorem ms_A_66 : jx_MS "java/util/ArrayList" 66 md_AR_copyOf 2 := ⟨⟨(jx_mem 306 (by decide +kernel) rfl), (jx_mem 308 (by decide +kernel) rfl), (jx_mem 16 (by decide +kernel) rfl), (by decide +kernel), (by decide +kernel)⟩, (jx_mem 307 (by decide +kernel) rfl)⟩
theorem ms_A_79 : jx_MS "java/util/ArrayList" 79 md_MA_max 2 := ⟨⟨(jx_mem 333 (by decide +kernel) rfl), (jx_mem 100 (by decide +kernel) rfl), (jx_mem 7 (by decide +kernel) rfl), (by decide +kernel), (by decide +kernel)⟩, (jx_mem 99 (by decide +kernel) rfl)⟩
theorem ms_AS_194 : jx_MS "jdk/internal/util/ArraysSupport" 194 md_MA_max 2 := ⟨⟨(jx_mem 301 (by decide +kernel) rfl), (jx_mem 100 (by decide +kernel) rfl), (jx_mem 7 (by decide +kernel) rfl), (by decide +kernel), (by decide +kernel)⟩, (jx_mem 99 (by decide +kernel) rfl)⟩
theorem nv_AS_200 : Jvm.Cond.constant "jdk/internal/util/ArraysSupport" 200 (2147483639) ∈ jx_tb := (jx_mem 302 (by decide +kernel) rfl)
theorem ms_AS_201 : jx_MS "jdk/internal/util/ArraysSupport" 201 md_AS_hugeLength 2 := ⟨⟨(jx_mem 303 (by decide +kernel) rfl), (jx_mem 305 (by decide +kernel) rfl), (jx_mem 15 (by decide +kernel) rfl), (by decide +kernel), (by decide +kernel)⟩, (jx_mem 304 (by decide +kernel) rfl)⟩
theorem ms_AR_300 : jx_MS "java/util/Arrays" 300 md_AR_copyOf2 3 := ⟨⟨(jx_mem 323 (by decide +kernel) rfl), (jx_mem 325 (by decide +kernel) rfl), (jx_mem 16 (by decide +kernel) rfl), (by decide +kernel), (by decide +kernel)⟩, (jx_mem 324 (by decide +kernel) rfl)⟩
theorem nk_AR_110 : Cond.classLink "java/util/Arrays" 110 "[Ljava/lang/Object;" ∈ jx_tb := (jx_mem 326 (by decide +kernel) rfl)
theorem ms_AR_304 : jx_MS "java/util/Arrays" 304 md_MA_min 2 := ⟨⟨(jx_mem 329 (by decide +kernel) rfl), (jx_mem 97 (by decide +kernel) rfl), (jx_mem 7 (by decide +kernel) rfl), (by decide +kernel), (by decide +kernel)⟩, (jx_mem 96 (by decide +kernel) rfl)⟩
theorem mv_L_17 : jx_MV "KeyedFoldsLaw" "KeyedFolds" 17 md_K_failsAt 2 := ⟨⟨(jx_mem 339 (by decide +kernel) rfl), (jx_mem 342 (by decide +kernel) rfl), (jx_mem 1 (by decide +kernel) rfl), (by decide +kernel), (by decide +kernel)⟩, (jx_mem 340 (by decide +kernel) rfl), (jx_mem 341 (by decide +kernel) rfl)⟩
theorem mv_K_112 : jx_MV "KeyedFolds" "KeyedFolds" 112 md_K_isFold 1 := ⟨⟨(jx_mem 343 (by decide +kernel) rfl), (jx_mem 346 (by decide +kernel) rfl), (jx_mem 1 (by decide +kernel) rfl), (by decide +kernel), (by decide +kernel)⟩, (jx_mem 345 (by decide +kernel) rfl), (jx_memp 4 (by decide +kernel) rfl)⟩
theorem mv_K_121 : jx_MV "KeyedFolds" "java/util/ArrayList" 121 md_A_get 1 := ⟨⟨(jx_mem 363 (by decide +kernel) rfl), (jx_mem 366 (by decide +kernel) rfl), (jx_mem 4 (by decide +kernel) rfl), (by decide +kernel), (by decide +kernel)⟩, (jx_mem 364 (by decide +kernel) rfl), (jx_mem 365 (by decide +kernel) rfl)⟩
theorem gf_K_125 : jx_GF "KeyedFolds" 125 0 3 := ⟨nc_F, nf_F, 5, "KeyedFolds$Fold", rfl, by decide, nw_F, (jx_mem 269 (by decide +kernel) rfl), (Or.inl rfl)⟩
theorem mv_K_130 : jx_MV "KeyedFolds" "KeyedFolds$Fold" 130 md_F_isFailing 1 := ⟨⟨(jx_mem 378 (by decide +kernel) rfl), (jx_mem 381 (by decide +kernel) rfl), (jx_mem 14 (by decide +kernel) rfl), (by decide +kernel), (by decide +kernel)⟩, (jx_mem 379 (by decide +kernel) rfl), (jx_mem 380 (by decide +kernel) rfl)⟩
theorem mv_K_136 : jx_MV "KeyedFolds" "KeyedFolds$Fold" 136 md_F_addFailing 1 := ⟨⟨(jx_mem 383 (by decide +kernel) rfl), (jx_mem 386 (by decide +kernel) rfl), (jx_mem 14 (by decide +kernel) rfl), (by decide +kernel), (by decide +kernel)⟩, (jx_mem 384 (by decide +kernel) rfl), (jx_mem 385 (by decide +kernel) rfl)⟩
theorem ms_A_118 : jx_MS "java/util/ArrayList" 118 md_OB_checkIndex 2 := ⟨⟨(jx_mem 367 (by decide +kernel) rfl), (jx_mem 369 (by decide +kernel) rfl), (jx_mem 19 (by decide +kernel) rfl), (by decide +kernel), (by decide +kernel)⟩, (jx_mem 368 (by decide +kernel) rfl)⟩
theorem mv_A_123 : jx_MV "java/util/ArrayList" "java/util/ArrayList" 123 md_A_elementData 1 := ⟨⟨(jx_mem 373 (by decide +kernel) rfl), (jx_mem 376 (by decide +kernel) rfl), (jx_mem 4 (by decide +kernel) rfl), (by decide +kernel), (by decide +kernel)⟩, (jx_mem 374 (by decide +kernel) rfl), (jx_mem 375 (by decide +kernel) rfl)⟩
theorem ms_OB_105 : jx_MS "java/util/Objects" 105 md_PC_checkIndex 3 := ⟨⟨(jx_mem 370 (by decide +kernel) rfl), (jx_mem 372 (by decide +kernel) rfl), (jx_mem 20 (by decide +kernel) rfl), (by decide +kernel), (by decide +kernel)⟩, (jx_mem 371 (by decide +kernel) rfl)⟩
theorem gf_F_9 : jx_GF "KeyedFolds$Fold" 9 0 3 := ⟨nc_F, nf_F, 5, "KeyedFolds$Fold", rfl, by decide, nw_F, (jx_mem 268 (by decide +kernel) rfl), (Or.inl rfl)⟩
theorem gf_F_15 : jx_GF "KeyedFolds$Fold" 15 0 4 := ⟨nc_F, nf_F, 5, "KeyedFolds$Fold", rfl, by decide, nw_F, (jx_mem 270 (by decide +kernel) rfl), (Or.inl rfl)⟩
theorem mv_L_23 : jx_MV "KeyedFoldsLaw" "KeyedFolds" 23 md_K_rule 2 := ⟨⟨(jx_mem 390 (by decide +kernel) rfl), (jx_mem 393 (by decide +kernel) rfl), (jx_mem 1 (by decide +kernel) rfl), (by decide +kernel), (by decide +kernel)⟩, (jx_mem 391 (by decide +kernel) rfl), (jx_mem 392 (by decide +kernel) rfl)⟩
theorem gf_K_38 : jx_GF "KeyedFolds" 38 4 9 := ⟨nc_K, nf_K, 18, "KeyedFolds", rfl, by decide, nw_K, (jx_mem 110 (by decide +kernel) rfl), (Or.inl rfl)⟩
theorem gf_K_42 : jx_GF "KeyedFolds" 42 4 10 := ⟨nc_K, nf_K, 18, "KeyedFolds", rfl, by decide, nw_K, (jx_mem 111 (by decide +kernel) rfl), (Or.inl rfl)⟩
theorem mv_L_27 : jx_MV "KeyedFoldsLaw" "KeyedFolds" 27 md_K_row 3 := ⟨⟨(jx_mem 399 (by decide +kernel) rfl), (jx_mem 402 (by decide +kernel) rfl), (jx_mem 1 (by decide +kernel) rfl), (by decide +kernel), (by decide +kernel)⟩, (jx_mem 400 (by decide +kernel) rfl), (jx_mem 401 (by decide +kernel) rfl)⟩
theorem nv_K_144 : Jvm.Cond.constantLong "KeyedFolds" 144 (1099511627776) ∈ jx_tb := (jx_mem 403 (by decide +kernel) rfl)
theorem mv_K_148 : jx_MV "KeyedFolds" "java/util/ArrayList" 148 md_A_isEmpty 0 := ⟨⟨(jx_mem 405 (by decide +kernel) rfl), (jx_mem 408 (by decide +kernel) rfl), (jx_mem 4 (by decide +kernel) rfl), (by decide +kernel), (by decide +kernel)⟩, (jx_mem 406 (by decide +kernel) rfl), (jx_mem 407 (by decide +kernel) rfl)⟩
theorem gf_K_22 : jx_GF "KeyedFolds" 22 4 6 := ⟨nc_K, nf_K, 18, "KeyedFolds", rfl, by decide, nw_K, (jx_mem 107 (by decide +kernel) rfl), (Or.inl rfl)⟩
theorem mv_K_154 : jx_MV "KeyedFolds" "KeyedFolds$StoppedKeys" 154 md_S_has 1 := ⟨⟨(jx_mem 410 (by decide +kernel) rfl), (jx_mem 413 (by decide +kernel) rfl), (jx_mem 5 (by decide +kernel) rfl), (by decide +kernel), (by decide +kernel)⟩, (jx_mem 411 (by decide +kernel) rfl), (jx_mem 412 (by decide +kernel) rfl)⟩
theorem mv_K_159 : jx_MV "KeyedFolds" "KeyedFolds" 159 md_K_codeOf 3 := ⟨⟨(jx_mem 419 (by decide +kernel) rfl), (jx_mem 422 (by decide +kernel) rfl), (jx_mem 1 (by decide +kernel) rfl), (by decide +kernel), (by decide +kernel)⟩, (jx_mem 421 (by decide +kernel) rfl), (jx_memp 6 (by decide +kernel) rfl)⟩
theorem mv_K_163 : jx_MV "KeyedFolds" "KeyedFolds" 163 md_K_hasRoomFor 1 := ⟨⟨(jx_mem 451 (by decide +kernel) rfl), (jx_mem 454 (by decide +kernel) rfl), (jx_mem 1 (by decide +kernel) rfl), (by decide +kernel), (by decide +kernel)⟩, (jx_mem 453 (by decide +kernel) rfl), (jx_memp 12 (by decide +kernel) rfl)⟩
theorem mv_K_168 : jx_MV "KeyedFolds" "KeyedFolds" 168 md_K_isLate 1 := ⟨⟨(jx_mem 423 (by decide +kernel) rfl), (jx_mem 426 (by decide +kernel) rfl), (jx_mem 1 (by decide +kernel) rfl), (by decide +kernel), (by decide +kernel)⟩, (jx_mem 425 (by decide +kernel) rfl), (jx_memp 7 (by decide +kernel) rfl)⟩
theorem gf_K_57 : jx_GF "KeyedFolds" 57 4 14 := ⟨nc_K, nf_K, 18, "KeyedFolds", rfl, by decide, nw_K, (jx_mem 115 (by decide +kernel) rfl), (Or.inl rfl)⟩
theorem mv_K_171 : jx_MV "KeyedFolds" "KeyedFolds" 171 md_K_take 3 := ⟨⟨(jx_mem 456 (by decide +kernel) rfl), (jx_mem 459 (by decide +kernel) rfl), (jx_mem 1 (by decide +kernel) rfl), (by decide +kernel), (by decide +kernel)⟩, (jx_mem 458 (by decide +kernel) rfl), (jx_memp 13 (by decide +kernel) rfl)⟩
theorem mv_K_175 : jx_MV "KeyedFolds" "KeyedFolds" 175 md_K_letRowsLeave 0 := ⟨⟨(jx_mem 535 (by decide +kernel) rfl), (jx_mem 538 (by decide +kernel) rfl), (jx_mem 1 (by decide +kernel) rfl), (by decide +kernel), (by decide +kernel)⟩, (jx_mem 537 (by decide +kernel) rfl), (jx_memp 17 (by decide +kernel) rfl)⟩
theorem mv_K_178 : jx_MV "KeyedFolds" "KeyedFolds" 178 md_K_doTimers 0 := ⟨⟨(jx_mem 560 (by decide +kernel) rfl), (jx_mem 563 (by decide +kernel) rfl), (jx_mem 1 (by decide +kernel) rfl), (by decide +kernel), (by decide +kernel)⟩, (jx_mem 562 (by decide +kernel) rfl), (jx_memp 21 (by decide +kernel) rfl)⟩
theorem mv_K_181 : jx_MV "KeyedFolds" "KeyedFolds" 181 md_K_turnAway 4 := ⟨⟨(jx_mem 586 (by decide +kernel) rfl), (jx_mem 589 (by decide +kernel) rfl), (jx_mem 1 (by decide +kernel) rfl), (by decide +kernel), (by decide +kernel)⟩, (jx_mem 588 (by decide +kernel) rfl), (jx_memp 24 (by decide +kernel) rfl)⟩
theorem mv_S_19 : jx_MV "KeyedFolds$StoppedKeys" "KeyedFolds$StoppedKeys" 19 md_S_placeOf 1 := ⟨⟨(jx_mem 414 (by decide +kernel) rfl), (jx_mem 417 (by decide +kernel) rfl), (jx_mem 5 (by decide +kernel) rfl), (by decide +kernel), (by decide +kernel)⟩, (jx_mem 416 (by decide +kernel) rfl), (jx_memp 5 (by decide +kernel) rfl)⟩
theorem gf_S_15 : jx_GF "KeyedFolds$StoppedKeys" 15 2 1 := ⟨nc_S, nf_S, 2, "KeyedFolds$StoppedKeys", rfl, by decide, nw_S, (jx_mem 63 (by decide +kernel) rfl), (Or.inl rfl)⟩
theorem gf_S_9 : jx_GF "KeyedFolds$StoppedKeys" 9 2 0 := ⟨nc_S, nf_S, 2, "KeyedFolds$StoppedKeys", rfl, by decide, nw_S, (jx_mem 62 (by decide +kernel) rfl), (Or.inl rfl)⟩
theorem mv_K_190 : jx_MV "KeyedFolds" "KeyedFolds" 190 md_K_placeOfKey 1 := ⟨⟨(jx_mem 435 (by decide +kernel) rfl), (jx_mem 438 (by decide +kernel) rfl), (jx_mem 1 (by decide +kernel) rfl), (by decide +kernel), (by decide +kernel)⟩, (jx_mem 437 (by decide +kernel) rfl), (jx_memp 10 (by decide +kernel) rfl)⟩
theorem gf_K_16 : jx_GF "KeyedFolds" 16 4 5 := ⟨nc_K, nf_K, 18, "KeyedFolds", rfl, by decide, nw_K, (jx_mem 106 (by decide +kernel) rfl), (Or.inl rfl)⟩
theorem nk_K_196 : Cond.classLink "KeyedFolds" 196 "KeyedFolds$KeyRows" ∈ jx_tb := (jx_mem 439 (by decide +kernel) rfl)
theorem gf_K_79 : jx_GF "KeyedFolds" 79 4 2 := ⟨nc_K, nf_K, 18, "KeyedFolds", rfl, by decide, nw_K, (jx_mem 103 (by decide +kernel) rfl), (Or.inl rfl)⟩
theorem mv_K_271 : jx_MV "KeyedFolds" "KeyedFolds$KeyRows" 271 md_R_hasNear 3 := ⟨⟨(jx_mem 440 (by decide +kernel) rfl), (jx_mem 443 (by decide +kernel) rfl), (jx_mem 21 (by decide +kernel) rfl), (by decide +kernel), (by decide +kernel)⟩, (jx_mem 441 (by decide +kernel) rfl), (jx_mem 442 (by decide +kernel) rfl)⟩
theorem mv_K_275 : jx_MV "KeyedFolds" "KeyedFolds" 275 md_K_causeOf 1 := ⟨⟨(jx_mem 447 (by decide +kernel) rfl), (jx_mem 450 (by decide +kernel) rfl), (jx_mem 1 (by decide +kernel) rfl), (by decide +kernel), (by decide +kernel)⟩, (jx_mem 449 (by decide +kernel) rfl), (jx_memp 11 (by decide +kernel) rfl)⟩
theorem mv_K_235 : jx_MV "KeyedFolds" "KeyedFolds" 235 md_K_hasWatermark 0 := ⟨⟨(jx_mem 427 (by decide +kernel) rfl), (jx_mem 430 (by decide +kernel) rfl), (jx_mem 1 (by decide +kernel) rfl), (by decide +kernel), (by decide +kernel)⟩, (jx_mem 429 (by decide +kernel) rfl), (jx_memp 8 (by decide +kernel) rfl)⟩
theorem mv_K_240 : jx_MV "KeyedFolds" "KeyedFolds" 240 md_K_watermarkTime 0 := ⟨⟨(jx_mem 431 (by decide +kernel) rfl), (jx_mem 434 (by decide +kernel) rfl), (jx_mem 1 (by decide +kernel) rfl), (by decide +kernel), (by decide +kernel)⟩, (jx_mem 433 (by decide +kernel) rfl), (jx_memp 9 (by decide +kernel) rfl)⟩
theorem gf_K_47 : jx_GF "KeyedFolds" 47 4 11 := ⟨nc_K, nf_K, 18, "KeyedFolds", rfl, by decide, nw_K, (jx_mem 112 (by decide +kernel) rfl), (Or.inl rfl)⟩
theorem gf_K_73 : jx_GF "KeyedFolds" 73 4 0 := ⟨nc_K, nf_K, 18, "KeyedFolds", rfl, by decide, nw_K, (jx_mem 101 (by decide +kernel) rfl), (Or.inl rfl)⟩
theorem gf_K_268 : jx_GF "KeyedFolds" 268 1 0 := ⟨nc_R, nf_R, 7, "KeyedFolds$KeyRows", rfl, by decide, nw_R, (jx_mem 470 (by decide +kernel) rfl), (Or.inl rfl)⟩
theorem gf_R_18 : jx_GF "KeyedFolds$KeyRows" 18 1 4 := ⟨nc_R, nf_R, 7, "KeyedFolds$KeyRows", rfl, by decide, nw_R, (jx_mem 477 (by decide +kernel) rfl), (Or.inl rfl)⟩
theorem gf_R_15 : jx_GF "KeyedFolds$KeyRows" 15 1 2 := ⟨nc_R, nf_R, 7, "KeyedFolds$KeyRows", rfl, by decide, nw_R, (jx_mem 473 (by decide +kernel) rfl), (Or.inl rfl)⟩
theorem gf_R_9 : jx_GF "KeyedFolds$KeyRows" 9 1 1 := ⟨nc_R, nf_R, 7, "KeyedFolds$KeyRows", rfl, by decide, nw_R, (jx_mem 471 (by decide +kernel) rfl), (Or.inl rfl)⟩
theorem ms_R_36 : jx_MS "KeyedFolds$KeyRows" 36 md_MA_abs 1 := ⟨⟨(jx_mem 444 (by decide +kernel) rfl), (jx_mem 446 (by decide +kernel) rfl), (jx_mem 7 (by decide +kernel) rfl), (by decide +kernel), (by decide +kernel)⟩, (jx_mem 445 (by decide +kernel) rfl)⟩
theorem gf_K_204 : jx_GF "KeyedFolds" 204 1 4 := ⟨nc_R, nf_R, 7, "KeyedFolds$KeyRows", rfl, by decide, nw_R, (jx_mem 478 (by decide +kernel) rfl), (Or.inl rfl)⟩
theorem mv_K_291 : jx_MV "KeyedFolds" "KeyedFolds" 291 md_K_startStates 0 := ⟨⟨(jx_mem 461 (by decide +kernel) rfl), (jx_mem 464 (by decide +kernel) rfl), (jx_mem 1 (by decide +kernel) rfl), (by decide +kernel), (by decide +kernel)⟩, (jx_mem 463 (by decide +kernel) rfl), (jx_memp 14 (by decide +kernel) rfl)⟩
theorem mi_K_295 : jx_MI "KeyedFolds" 295 md_R_init 3 := ⟨⟨(jx_mem 465 (by decide +kernel) rfl), (jx_mem 467 (by decide +kernel) rfl), (jx_mem 21 (by decide +kernel) rfl), (by decide +kernel), (by decide +kernel)⟩, rfl, (jx_mem 466 (by decide +kernel) rfl), rfl⟩
theorem mv_K_298 : jx_MV "KeyedFolds" "KeyedFolds$KeyRows" 298 md_R_take 2 := ⟨⟨(jx_mem 497 (by decide +kernel) rfl), (jx_mem 500 (by decide +kernel) rfl), (jx_mem 21 (by decide +kernel) rfl), (by decide +kernel), (by decide +kernel)⟩, (jx_mem 498 (by decide +kernel) rfl), (jx_mem 499 (by decide +kernel) rfl)⟩
theorem ms_K_301 : jx_MS "KeyedFolds" 301 md_MA_max2 2 := ⟨⟨(jx_mem 532 (by decide +kernel) rfl), (jx_mem 534 (by decide +kernel) rfl), (jx_mem 7 (by decide +kernel) rfl), (by decide +kernel), (by decide +kernel)⟩, (jx_mem 533 (by decide +kernel) rfl)⟩
theorem gf_K_304 : jx_GF "KeyedFolds" 304 0 1 := ⟨nc_F, nf_F, 5, "KeyedFolds$Fold", rfl, by decide, nw_F, (jx_mem 266 (by decide +kernel) rfl), (Or.inl rfl)⟩
theorem mo_R_3 : Cond.methodLink "KeyedFolds$KeyRows" 3 Lib.objectInit ∈ jx_tb := (jx_mem 468 (by decide +kernel) rfl)
theorem pf_R_9 : jx_PF "KeyedFolds$KeyRows" "<init>" 9 1 1 (.array .long) := ⟨nc_R, nf_R, 7, "KeyedFolds$KeyRows", nt_R, rfl, by decide, nw_R, (jx_mem 471 (by decide +kernel) rfl), (Or.inl rfl), no_R, nn_R, rfl, (Or.inr ⟨rfl, rfl, rfl⟩)⟩
theorem pf_R_15 : jx_PF "KeyedFolds$KeyRows" "<init>" 15 1 2 (.array .long) := ⟨nc_R, nf_R, 7, "KeyedFolds$KeyRows", nt_R, rfl, by decide, nw_R, (jx_mem 473 (by decide +kernel) rfl), (Or.inl rfl), no_R, nn_R, rfl, (Or.inr ⟨rfl, rfl, rfl⟩)⟩
theorem pf_R_18 {nm : String} : jx_PF "KeyedFolds$KeyRows" nm 18 1 4 .int := ⟨nc_R, nf_R, 7, "KeyedFolds$KeyRows", nt_R, rfl, by decide, nw_R, (jx_mem 477 (by decide +kernel) rfl), (Or.inl rfl), no_R, nn_R, rfl, (Or.inl rfl)⟩
theorem pf_R_22 {nm : String} : jx_PF "KeyedFolds$KeyRows" nm 22 1 5 .int := ⟨nc_R, nf_R, 7, "KeyedFolds$KeyRows", nt_R, rfl, by decide, nw_R, (jx_mem 479 (by decide +kernel) rfl), (Or.inl rfl), no_R, nn_R, rfl, (Or.inl rfl)⟩
theorem pf_R_25 : jx_PF "KeyedFolds$KeyRows" "<init>" 25 1 0 .long := ⟨nc_R, nf_R, 7, "KeyedFolds$KeyRows", nt_R, rfl, by decide, nw_R, (jx_mem 469 (by decide +kernel) rfl), (Or.inl rfl), no_R, nn_R, rfl, (Or.inr ⟨rfl, rfl, rfl⟩)⟩
theorem pf_R_29 : jx_PF "KeyedFolds$KeyRows" "<init>" 29 1 6 (.object "java/util/ArrayList") := ⟨nc_R, nf_R, 7, "KeyedFolds$KeyRows", nt_R, rfl, by decide, nw_R, (jx_mem 481 (by decide +kernel) rfl), (Or.inl rfl), no_R, nn_R, rfl, (Or.inr ⟨rfl, rfl, rfl⟩)⟩
theorem pf_R_33 : jx_PF "KeyedFolds$KeyRows" "<init>" 33 1 3 (.array .long) := ⟨nc_R, nf_R, 7, "KeyedFolds$KeyRows", nt_R, rfl, by decide, nw_R, (jx_mem 475 (by decide +kernel) rfl), (Or.inl rfl), no_R, nn_R, rfl, (Or.inr ⟨rfl, rfl, rfl⟩)⟩
theorem mv_R_42 : jx_MV "KeyedFolds$KeyRows" "KeyedFolds$KeyRows" 42 md_R_countBelow 1 := ⟨⟨(jx_mem 501 (by decide +kernel) rfl), (jx_mem 504 (by decide +kernel) rfl), (jx_mem 21 (by decide +kernel) rfl), (by decide +kernel), (by decide +kernel)⟩, (jx_mem 502 (by decide +kernel) rfl), (jx_mem 503 (by decide +kernel) rfl)⟩
theorem mv_R_46 : jx_MV "KeyedFolds$KeyRows" "KeyedFolds$KeyRows" 46 md_R_insert 3 := ⟨⟨(jx_mem 505 (by decide +kernel) rfl), (jx_mem 508 (by decide +kernel) rfl), (jx_mem 21 (by decide +kernel) rfl), (by decide +kernel), (by decide +kernel)⟩, (jx_mem 507 (by decide +kernel) rfl), (jx_memp 15 (by decide +kernel) rfl)⟩
theorem gf_R_29 : jx_GF "KeyedFolds$KeyRows" 29 1 6 := ⟨nc_R, nf_R, 7, "KeyedFolds$KeyRows", rfl, by decide, nw_R, (jx_mem 481 (by decide +kernel) rfl), (Or.inl rfl)⟩
theorem mv_R_50 : jx_MV "KeyedFolds$KeyRows" "java/util/ArrayList" 50 md_A_size 0 := ⟨⟨(jx_mem 509 (by decide +kernel) rfl), (jx_mem 239 (by decide +kernel) rfl), (jx_mem 4 (by decide +kernel) rfl), (by decide +kernel), (by decide +kernel)⟩, (jx_mem 237 (by decide +kernel) rfl), (jx_mem 238 (by decide +kernel) rfl)⟩
theorem mv_R_56 : jx_MV "KeyedFolds$KeyRows" "java/util/ArrayList" 56 md_A_get 1 := ⟨⟨(jx_mem 510 (by decide +kernel) rfl), (jx_mem 366 (by decide +kernel) rfl), (jx_mem 4 (by decide +kernel) rfl), (by decide +kernel), (by decide +kernel)⟩, (jx_mem 364 (by decide +kernel) rfl), (jx_mem 365 (by decide +kernel) rfl)⟩
theorem nk_R_60 : Cond.classLink "KeyedFolds$KeyRows" 60 "KeyedFolds$Fold" ∈ jx_tb := (jx_mem 511 (by decide +kernel) rfl)
theorem mv_R_62 : jx_MV "KeyedFolds$KeyRows" "KeyedFolds$Fold" 62 md_F_mayBeJoined 0 := ⟨⟨(jx_mem 512 (by decide +kernel) rfl), (jx_mem 515 (by decide +kernel) rfl), (jx_mem 14 (by decide +kernel) rfl), (by decide +kernel), (by decide +kernel)⟩, (jx_mem 513 (by decide +kernel) rfl), (jx_mem 514 (by decide +kernel) rfl)⟩
theorem gf_R_33 : jx_GF "KeyedFolds$KeyRows" 33 1 3 := ⟨nc_R, nf_R, 7, "KeyedFolds$KeyRows", rfl, by decide, nw_R, (jx_mem 475 (by decide +kernel) rfl), (Or.inl rfl)⟩
theorem mv_R_66 : jx_MV "KeyedFolds$KeyRows" "KeyedFolds$KeyRows" 66 md_R_stepAt 3 := ⟨⟨(jx_mem 520 (by decide +kernel) rfl), (jx_mem 523 (by decide +kernel) rfl), (jx_mem 21 (by decide +kernel) rfl), (by decide +kernel), (by decide +kernel)⟩, (jx_mem 522 (by decide +kernel) rfl), (jx_memp 16 (by decide +kernel) rfl)⟩
theorem gf_R_22 : jx_GF "KeyedFolds$KeyRows" 22 1 5 := ⟨nc_R, nf_R, 7, "KeyedFolds$KeyRows", rfl, by decide, nw_R, (jx_mem 479 (by decide +kernel) rfl), (Or.inl rfl)⟩
theorem mv_R_70 : jx_MV "KeyedFolds$KeyRows" "KeyedFolds$KeyRows" 70 md_R_stateOfFirst 2 := ⟨⟨(jx_mem 528 (by decide +kernel) rfl), (jx_mem 531 (by decide +kernel) rfl), (jx_mem 21 (by decide +kernel) rfl), (by decide +kernel), (by decide +kernel)⟩, (jx_mem 529 (by decide +kernel) rfl), (jx_mem 530 (by decide +kernel) rfl)⟩
theorem gf_F_19 : jx_GF "KeyedFolds$Fold" 19 0 0 := ⟨nc_F, nf_F, 5, "KeyedFolds$Fold", rfl, by decide, nw_F, (jx_mem 263 (by decide +kernel) rfl), (Or.inl rfl)⟩
theorem mv_F_29 : jx_MV "KeyedFolds$Fold" "KeyedFolds$Fold" 29 md_F_canBeTakenBack 0 := ⟨⟨(jx_mem 516 (by decide +kernel) rfl), (jx_mem 519 (by decide +kernel) rfl), (jx_mem 14 (by decide +kernel) rfl), (by decide +kernel), (by decide +kernel)⟩, (jx_mem 517 (by decide +kernel) rfl), (jx_mem 518 (by decide +kernel) rfl)⟩
theorem mv_R_87 : jx_MV "KeyedFolds$KeyRows" "KeyedFolds$Fold" 87 md_F_step 4 := ⟨⟨(jx_mem 524 (by decide +kernel) rfl), (jx_mem 527 (by decide +kernel) rfl), (jx_mem 14 (by decide +kernel) rfl), (by decide +kernel), (by decide +kernel)⟩, (jx_mem 525 (by decide +kernel) rfl), (jx_mem 526 (by decide +kernel) rfl)⟩
theorem gf_F_26 : jx_GF "KeyedFolds$Fold" 26 0 2 := ⟨nc_F, nf_F, 5, "KeyedFolds$Fold", rfl, by decide, nw_F, (jx_mem 267 (by decide +kernel) rfl), (Or.inl rfl)⟩
theorem gf_R_84 : jx_GF "KeyedFolds$KeyRows" 84 0 1 := ⟨nc_F, nf_F, 5, "KeyedFolds$Fold", rfl, by decide, nw_F, (jx_mem 265 (by decide +kernel) rfl), (Or.inl rfl)⟩
theorem gf_K_76 : jx_GF "KeyedFolds" 76 4 1 := ⟨nc_K, nf_K, 18, "KeyedFolds", rfl, by decide, nw_K, (jx_mem 102 (by decide +kernel) rfl), (Or.inl rfl)⟩
theorem gf_K_66 : jx_GF "KeyedFolds" 66 4 17 := ⟨nc_K, nf_K, 18, "KeyedFolds", rfl, by decide, nw_K, (jx_mem 118 (by decide +kernel) rfl), (Or.inl rfl)⟩
theorem mv_K_307 : jx_MV "KeyedFolds" "KeyedFolds$KeyRows" 307 md_R_leaveBelow 1 := ⟨⟨(jx_mem 539 (by decide +kernel) rfl), (jx_mem 542 (by decide +kernel) rfl), (jx_mem 21 (by decide +kernel) rfl), (by decide +kernel), (by decide +kernel)⟩, (jx_mem 540 (by decide +kernel) rfl), (jx_mem 541 (by decide +kernel) rfl)⟩
theorem mv_R_74 : jx_MV "KeyedFolds$KeyRows" "KeyedFolds$KeyRows" 74 md_R_takeBackFirst 1 := ⟨⟨(jx_mem 543 (by decide +kernel) rfl), (jx_mem 546 (by decide +kernel) rfl), (jx_mem 21 (by decide +kernel) rfl), (by decide +kernel), (by decide +kernel)⟩, (jx_mem 545 (by decide +kernel) rfl), (jx_memp 18 (by decide +kernel) rfl)⟩
theorem mv_R_78 : jx_MV "KeyedFolds$KeyRows" "KeyedFolds$KeyRows" 78 md_R_removeFirst 1 := ⟨⟨(jx_mem 552 (by decide +kernel) rfl), (jx_mem 555 (by decide +kernel) rfl), (jx_mem 21 (by decide +kernel) rfl), (by decide +kernel), (by decide +kernel)⟩, (jx_mem 554 (by decide +kernel) rfl), (jx_memp 19 (by decide +kernel) rfl)⟩
theorem mv_R_81 : jx_MV "KeyedFolds$KeyRows" "KeyedFolds$KeyRows" 81 md_R_foldTheOthersAnew 0 := ⟨⟨(jx_mem 556 (by decide +kernel) rfl), (jx_mem 559 (by decide +kernel) rfl), (jx_mem 21 (by decide +kernel) rfl), (by decide +kernel), (by decide +kernel)⟩, (jx_mem 558 (by decide +kernel) rfl), (jx_memp 20 (by decide +kernel) rfl)⟩
theorem mv_R_91 : jx_MV "KeyedFolds$KeyRows" "KeyedFolds$Fold" 91 md_F_canBeTakenBack 0 := ⟨⟨(jx_mem 547 (by decide +kernel) rfl), (jx_mem 519 (by decide +kernel) rfl), (jx_mem 14 (by decide +kernel) rfl), (by decide +kernel), (by decide +kernel)⟩, (jx_mem 517 (by decide +kernel) rfl), (jx_mem 518 (by decide +kernel) rfl)⟩
theorem mv_R_94 : jx_MV "KeyedFolds$KeyRows" "KeyedFolds$Fold" 94 md_F_stepTakenBack 2 := ⟨⟨(jx_mem 548 (by decide +kernel) rfl), (jx_mem 551 (by decide +kernel) rfl), (jx_mem 14 (by decide +kernel) rfl), (by decide +kernel), (by decide +kernel)⟩, (jx_mem 549 (by decide +kernel) rfl), (jx_mem 550 (by decide +kernel) rfl)⟩
theorem gf_K_82 : jx_GF "KeyedFolds" 82 4 3 := ⟨nc_K, nf_K, 18, "KeyedFolds", rfl, by decide, nw_K, (jx_mem 104 (by decide +kernel) rfl), (Or.inl rfl)⟩
theorem gf_K_51 : jx_GF "KeyedFolds" 51 4 12 := ⟨nc_K, nf_K, 18, "KeyedFolds", rfl, by decide, nw_K, (jx_mem 113 (by decide +kernel) rfl), (Or.inl rfl)⟩
theorem nv_K_310 : Jvm.Cond.constantLong "KeyedFolds" 310 (20) ∈ jx_tb := (jx_mem 564 (by decide +kernel) rfl)
theorem ms_K_312 : jx_MS "KeyedFolds" 312 md_MA_min2 2 := ⟨⟨(jx_mem 565 (by decide +kernel) rfl), (jx_mem 567 (by decide +kernel) rfl), (jx_mem 7 (by decide +kernel) rfl), (by decide +kernel), (by decide +kernel)⟩, (jx_mem 566 (by decide +kernel) rfl)⟩
theorem mv_K_314 : jx_MV "KeyedFolds" "KeyedFolds" 314 md_K_tellStatesBelow 1 := ⟨⟨(jx_mem 568 (by decide +kernel) rfl), (jx_mem 571 (by decide +kernel) rfl), (jx_mem 1 (by decide +kernel) rfl), (by decide +kernel), (by decide +kernel)⟩, (jx_mem 570 (by decide +kernel) rfl), (jx_memp 22 (by decide +kernel) rfl)⟩
theorem mv_K_317 : jx_MV "KeyedFolds" "KeyedFolds$KeyRows" 317 md_R_countBelow 1 := ⟨⟨(jx_mem 572 (by decide +kernel) rfl), (jx_mem 504 (by decide +kernel) rfl), (jx_mem 21 (by decide +kernel) rfl), (by decide +kernel), (by decide +kernel)⟩, (jx_mem 502 (by decide +kernel) rfl), (jx_mem 503 (by decide +kernel) rfl)⟩
theorem mv_K_320 : jx_MV "KeyedFolds" "KeyedFolds" 320 md_K_putOut 3 := ⟨⟨(jx_mem 573 (by decide +kernel) rfl), (jx_mem 576 (by decide +kernel) rfl), (jx_mem 1 (by decide +kernel) rfl), (by decide +kernel), (by decide +kernel)⟩, (jx_mem 575 (by decide +kernel) rfl), (jx_memp 23 (by decide +kernel) rfl)⟩
theorem gf_K_35 : jx_GF "KeyedFolds" 35 4 8 := ⟨nc_K, nf_K, 18, "KeyedFolds", rfl, by decide, nw_K, (jx_mem 109 (by decide +kernel) rfl), (Or.inl rfl)⟩
theorem mv_K_284 : jx_MV "KeyedFolds" "KeyedFolds$Table" 284 md_T_addLine 0 := ⟨⟨(jx_mem 577 (by decide +kernel) rfl), (jx_mem 580 (by decide +kernel) rfl), (jx_mem 6 (by decide +kernel) rfl), (by decide +kernel), (by decide +kernel)⟩, (jx_mem 578 (by decide +kernel) rfl), (jx_mem 579 (by decide +kernel) rfl)⟩
theorem mv_K_287 : jx_MV "KeyedFolds" "KeyedFolds$Table" 287 md_T_set 3 := ⟨⟨(jx_mem 581 (by decide +kernel) rfl), (jx_mem 584 (by decide +kernel) rfl), (jx_mem 6 (by decide +kernel) rfl), (by decide +kernel), (by decide +kernel)⟩, (jx_mem 582 (by decide +kernel) rfl), (jx_mem 583 (by decide +kernel) rfl)⟩
theorem mv_K_324 : jx_MV "KeyedFolds" "KeyedFolds$KeyRows" 324 md_R_stateOfFirst 2 := ⟨⟨(jx_mem 585 (by decide +kernel) rfl), (jx_mem 531 (by decide +kernel) rfl), (jx_mem 21 (by decide +kernel) rfl), (by decide +kernel), (by decide +kernel)⟩, (jx_mem 529 (by decide +kernel) rfl), (jx_mem 530 (by decide +kernel) rfl)⟩
theorem gf_T_9 : jx_GF "KeyedFolds$Table" 9 3 0 := ⟨nc_T, nf_T, 4, "KeyedFolds$Table", rfl, by decide, nw_T, (jx_mem 76 (by decide +kernel) rfl), (Or.inl rfl)⟩
theorem gf_T_15 : jx_GF "KeyedFolds$Table" 15 3 1 := ⟨nc_T, nf_T, 4, "KeyedFolds$Table", rfl, by decide, nw_T, (jx_mem 78 (by decide +kernel) rfl), (Or.inl rfl)⟩
theorem gf_T_21 : jx_GF "KeyedFolds$Table" 21 3 3 := ⟨nc_T, nf_T, 4, "KeyedFolds$Table", rfl, by decide, nw_T, (jx_mem 80 (by decide +kernel) rfl), (Or.inl rfl)⟩
theorem gf_T_18 : jx_GF "KeyedFolds$Table" 18 3 2 := ⟨nc_T, nf_T, 4, "KeyedFolds$Table", rfl, by decide, nw_T, (jx_mem 79 (by decide +kernel) rfl), (Or.inl rfl)⟩
theorem mv_K_278 : jx_MV "KeyedFolds" "KeyedFolds" 278 md_K_putAside 4 := ⟨⟨(jx_mem 590 (by decide +kernel) rfl), (jx_mem 593 (by decide +kernel) rfl), (jx_mem 1 (by decide +kernel) rfl), (by decide +kernel), (by decide +kernel)⟩, (jx_mem 592 (by decide +kernel) rfl), (jx_memp 25 (by decide +kernel) rfl)⟩
theorem gf_K_60 : jx_GF "KeyedFolds" 60 4 15 := ⟨nc_K, nf_K, 18, "KeyedFolds", rfl, by decide, nw_K, (jx_mem 116 (by decide +kernel) rfl), (Or.inl rfl)⟩
theorem gf_K_63 : jx_GF "KeyedFolds" 63 4 16 := ⟨nc_K, nf_K, 18, "KeyedFolds", rfl, by decide, nw_K, (jx_mem 117 (by decide +kernel) rfl), (Or.inl rfl)⟩
theorem mv_K_282 : jx_MV "KeyedFolds" "KeyedFolds$StoppedKeys" 282 md_S_add 1 := ⟨⟨(jx_mem 594 (by decide +kernel) rfl), (jx_mem 597 (by decide +kernel) rfl), (jx_mem 5 (by decide +kernel) rfl), (by decide +kernel), (by decide +kernel)⟩, (jx_mem 595 (by decide +kernel) rfl), (jx_mem 596 (by decide +kernel) rfl)⟩
theorem gf_K_31 : jx_GF "KeyedFolds" 31 4 7 := ⟨nc_K, nf_K, 18, "KeyedFolds", rfl, by decide, nw_K, (jx_mem 108 (by decide +kernel) rfl), (Or.inl rfl)⟩
theorem mv_L_31 : jx_MV "KeyedFoldsLaw" "KeyedFolds" 31 md_K_resume 1 := ⟨⟨(jx_mem 601 (by decide +kernel) rfl), (jx_mem 604 (by decide +kernel) rfl), (jx_mem 1 (by decide +kernel) rfl), (by decide +kernel), (by decide +kernel)⟩, (jx_mem 602 (by decide +kernel) rfl), (jx_mem 603 (by decide +kernel) rfl)⟩
theorem mv_K_187 : jx_MV "KeyedFolds" "KeyedFolds$StoppedKeys" 187 md_S_remove 1 := ⟨⟨(jx_mem 606 (by decide +kernel) rfl), (jx_mem 609 (by decide +kernel) rfl), (jx_mem 5 (by decide +kernel) rfl), (by decide +kernel), (by decide +kernel)⟩, (jx_mem 607 (by decide +kernel) rfl), (jx_mem 608 (by decide +kernel) rfl)⟩
theorem mv_L_35 : jx_MV "KeyedFoldsLaw" "KeyedFolds" 35 md_K_state 2 := ⟨⟨(jx_mem 613 (by decide +kernel) rfl), (jx_mem 616 (by decide +kernel) rfl), (jx_mem 1 (by decide +kernel) rfl), (by decide +kernel), (by decide +kernel)⟩, (jx_mem 614 (by decide +kernel) rfl), (jx_mem 615 (by decide +kernel) rfl)⟩
theorem gf_K_198 : jx_GF "KeyedFolds" 198 1 3 := ⟨nc_R, nf_R, 7, "KeyedFolds$KeyRows", rfl, by decide, nw_R, (jx_mem 476 (by decide +kernel) rfl), (Or.inl rfl)⟩
theorem mv_L_39 : jx_MV "KeyedFoldsLaw" "KeyedFolds" 39 md_K_key 2 := ⟨⟨(jx_mem 621 (by decide +kernel) rfl), (jx_mem 624 (by decide +kernel) rfl), (jx_mem 1 (by decide +kernel) rfl), (by decide +kernel), (by decide +kernel)⟩, (jx_mem 622 (by decide +kernel) rfl), (jx_mem 623 (by decide +kernel) rfl)⟩
theorem gf_K_207 : jx_GF "KeyedFolds" 207 1 5 := ⟨nc_R, nf_R, 7, "KeyedFolds$KeyRows", rfl, by decide, nw_R, (jx_mem 480 (by decide +kernel) rfl), (Or.inl rfl)⟩
theorem mv_L_43 : jx_MV "KeyedFoldsLaw" "KeyedFolds" 43 md_K_rowOf 3 := ⟨⟨(jx_mem 629 (by decide +kernel) rfl), (jx_mem 632 (by decide +kernel) rfl), (jx_mem 1 (by decide +kernel) rfl), (by decide +kernel), (by decide +kernel)⟩, (jx_mem 630 (by decide +kernel) rfl), (jx_mem 631 (by decide +kernel) rfl)⟩
theorem gf_K_214 : jx_GF "KeyedFolds" 214 1 1 := ⟨nc_R, nf_R, 7, "KeyedFolds$KeyRows", rfl, by decide, nw_R, (jx_mem 472 (by decide +kernel) rfl), (Or.inl rfl)⟩
theorem gf_K_217 : jx_GF "KeyedFolds" 217 1 2 := ⟨nc_R, nf_R, 7, "KeyedFolds$KeyRows", rfl, by decide, nw_R, (jx_mem 474 (by decide +kernel) rfl), (Or.inl rfl)⟩
theorem mv_L_47 : jx_MV "KeyedFoldsLaw" "KeyedFolds" 47 md_K_aside 2 := ⟨⟨(jx_mem 638 (by decide +kernel) rfl), (jx_mem 641 (by decide +kernel) rfl), (jx_mem 1 (by decide +kernel) rfl), (by decide +kernel), (by decide +kernel)⟩, (jx_mem 639 (by decide +kernel) rfl), (jx_mem 640 (by decide +kernel) rfl)⟩
theorem mv_K_220 : jx_MV "KeyedFolds" "KeyedFolds$Table" 220 md_T_keeps 1 := ⟨⟨(jx_mem 642 (by decide +kernel) rfl), (jx_mem 645 (by decide +kernel) rfl), (jx_mem 6 (by decide +kernel) rfl), (by decide +kernel), (by decide +kernel)⟩, (jx_mem 643 (by decide +kernel) rfl), (jx_mem 644 (by decide +kernel) rfl)⟩
theorem mv_K_227 : jx_MV "KeyedFolds" "KeyedFolds$Table" 227 md_T_cell 2 := ⟨⟨(jx_mem 648 (by decide +kernel) rfl), (jx_mem 651 (by decide +kernel) rfl), (jx_mem 6 (by decide +kernel) rfl), (by decide +kernel), (by decide +kernel)⟩, (jx_mem 649 (by decide +kernel) rfl), (jx_mem 650 (by decide +kernel) rfl)⟩
theorem mv_L_51 : jx_MV "KeyedFoldsLaw" "KeyedFolds" 51 md_K_output 2 := ⟨⟨(jx_mem 655 (by decide +kernel) rfl), (jx_mem 658 (by decide +kernel) rfl), (jx_mem 1 (by decide +kernel) rfl), (by decide +kernel), (by decide +kernel)⟩, (jx_mem 656 (by decide +kernel) rfl), (jx_mem 657 (by decide +kernel) rfl)⟩
theorem mv_L_54 : jx_MV "KeyedFoldsLaw" "KeyedFolds" 54 md_K_watermark 0 := ⟨⟨(jx_mem 664 (by decide +kernel) rfl), (jx_mem 667 (by decide +kernel) rfl), (jx_mem 1 (by decide +kernel) rfl), (by decide +kernel), (by decide +kernel)⟩, (jx_mem 665 (by decide +kernel) rfl), (jx_mem 666 (by decide +kernel) rfl)⟩
theorem mv_L_58 : jx_MV "KeyedFoldsLaw" "KeyedFolds" 58 md_K_told 1 := ⟨⟨(jx_mem 672 (by decide +kernel) rfl), (jx_mem 675 (by decide +kernel) rfl), (jx_mem 1 (by decide +kernel) rfl), (by decide +kernel), (by decide +kernel)⟩, (jx_mem 673 (by decide +kernel) rfl), (jx_mem 674 (by decide +kernel) rfl)⟩
theorem gf_K_244 : jx_GF "KeyedFolds" 244 3 0 := ⟨nc_T, nf_T, 4, "KeyedFolds$Table", rfl, by decide, nw_T, (jx_mem 77 (by decide +kernel) rfl), (Or.inl rfl)⟩
theorem mv_L_62 : jx_MV "KeyedFoldsLaw" "KeyedFolds" 62 md_K_folded 1 := ⟨⟨(jx_mem 680 (by decide +kernel) rfl), (jx_mem 683 (by decide +kernel) rfl), (jx_mem 1 (by decide +kernel) rfl), (by decide +kernel), (by decide +kernel)⟩, (jx_mem 681 (by decide +kernel) rfl), (jx_mem 682 (by decide +kernel) rfl)⟩
theorem mv_K_249 : jx_MV "KeyedFolds" "KeyedFolds$KeyRows" 249 md_R_statesAreThoseFoldedAnew 0 := ⟨⟨(jx_mem 684 (by decide +kernel) rfl), (jx_mem 687 (by decide +kernel) rfl), (jx_mem 21 (by decide +kernel) rfl), (by decide +kernel), (by decide +kernel)⟩, (jx_mem 685 (by decide +kernel) rfl), (jx_mem 686 (by decide +kernel) rfl)⟩
theorem mv_L_66 : jx_MV "KeyedFoldsLaw" "KeyedFolds" 66 md_K_joined 1 := ⟨⟨(jx_mem 691 (by decide +kernel) rfl), (jx_mem 694 (by decide +kernel) rfl), (jx_mem 1 (by decide +kernel) rfl), (by decide +kernel), (by decide +kernel)⟩, (jx_mem 692 (by decide +kernel) rfl), (jx_mem 693 (by decide +kernel) rfl)⟩
theorem mv_K_252 : jx_MV "KeyedFolds" "KeyedFolds$Fold" 252 md_F_mayBeJoined 0 := ⟨⟨(jx_mem 695 (by decide +kernel) rfl), (jx_mem 515 (by decide +kernel) rfl), (jx_mem 14 (by decide +kernel) rfl), (by decide +kernel), (by decide +kernel)⟩, (jx_mem 513 (by decide +kernel) rfl), (jx_mem 514 (by decide +kernel) rfl)⟩
theorem mv_K_255 : jx_MV "KeyedFolds" "KeyedFolds$KeyRows" 255 md_R_stateIsThatFoldedBackwards 1 := ⟨⟨(jx_mem 696 (by decide +kernel) rfl), (jx_mem 699 (by decide +kernel) rfl), (jx_mem 21 (by decide +kernel) rfl), (by decide +kernel), (by decide +kernel)⟩, (jx_mem 697 (by decide +kernel) rfl), (jx_mem 698 (by decide +kernel) rfl)⟩
theorem mo_M_1 : Cond.methodLink "KeyedFoldsModel" 1 Lib.objectInit ∈ jx_tb := (jx_mem 705 (by decide +kernel) rfl)
theorem pf_M_7 : jx_PF "KeyedFoldsModel" "<init>" 7 5 6 (.array .int) := ⟨nc_M, nf_M, 33, "KeyedFoldsModel", nt_M, rfl, by decide, nw_M, (jx_mem 717 (by decide +kernel) rfl), (Or.inl rfl), no_M, nn_M, rfl, (Or.inr ⟨rfl, rfl, rfl⟩)⟩
theorem pf_M_13 : jx_PF "KeyedFoldsModel" "<init>" 13 5 7 (.array .long) := ⟨nc_M, nf_M, 33, "KeyedFoldsModel", nt_M, rfl, by decide, nw_M, (jx_mem 718 (by decide +kernel) rfl), (Or.inl rfl), no_M, nn_M, rfl, (Or.inr ⟨rfl, rfl, rfl⟩)⟩
theorem pf_M_17 : jx_PF "KeyedFoldsModel" "<init>" 17 5 8 (.array .long) := ⟨nc_M, nf_M, 33, "KeyedFoldsModel", nt_M, rfl, by decide, nw_M, (jx_mem 719 (by decide +kernel) rfl), (Or.inl rfl), no_M, nn_M, rfl, (Or.inr ⟨rfl, rfl, rfl⟩)⟩
theorem pf_M_20 : jx_PF "KeyedFoldsModel" "<init>" 20 5 9 (.array .int) := ⟨nc_M, nf_M, 33, "KeyedFoldsModel", nt_M, rfl, by decide, nw_M, (jx_mem 720 (by decide +kernel) rfl), (Or.inl rfl), no_M, nn_M, rfl, (Or.inr ⟨rfl, rfl, rfl⟩)⟩
theorem pf_M_23 : jx_PF "KeyedFoldsModel" "<init>" 23 5 10 (.array .long) := ⟨nc_M, nf_M, 33, "KeyedFoldsModel", nt_M, rfl, by decide, nw_M, (jx_mem 721 (by decide +kernel) rfl), (Or.inl rfl), no_M, nn_M, rfl, (Or.inr ⟨rfl, rfl, rfl⟩)⟩
theorem pf_M_26 : jx_PF "KeyedFoldsModel" "<init>" 26 5 14 (.array .long) := ⟨nc_M, nf_M, 33, "KeyedFoldsModel", nt_M, rfl, by decide, nw_M, (jx_mem 725 (by decide +kernel) rfl), (Or.inl rfl), no_M, nn_M, rfl, (Or.inr ⟨rfl, rfl, rfl⟩)⟩
theorem pf_M_29 : jx_PF "KeyedFoldsModel" "<init>" 29 5 15 (.array .int) := ⟨nc_M, nf_M, 33, "KeyedFoldsModel", nt_M, rfl, by decide, nw_M, (jx_mem 726 (by decide +kernel) rfl), (Or.inl rfl), no_M, nn_M, rfl, (Or.inr ⟨rfl, rfl, rfl⟩)⟩
theorem pf_M_32 : jx_PF "KeyedFoldsModel" "<init>" 32 5 16 (.array .int) := ⟨nc_M, nf_M, 33, "KeyedFoldsModel", nt_M, rfl, by decide, nw_M, (jx_mem 727 (by decide +kernel) rfl), (Or.inl rfl), no_M, nn_M, rfl, (Or.inr ⟨rfl, rfl, rfl⟩)⟩
theorem pf_M_35 : jx_PF "KeyedFoldsModel" "<init>" 35 5 17 (.array .long) := ⟨nc_M, nf_M, 33, "KeyedFoldsModel", nt_M, rfl, by decide, nw_M, (jx_mem 728 (by decide +kernel) rfl), (Or.inl rfl), no_M, nn_M, rfl, (Or.inr ⟨rfl, rfl, rfl⟩)⟩
theorem pf_M_38 : jx_PF "KeyedFoldsModel" "<init>" 38 5 18 (.array .long) := ⟨nc_M, nf_M, 33, "KeyedFoldsModel", nt_M, rfl, by decide, nw_M, (jx_mem 729 (by decide +kernel) rfl), (Or.inl rfl), no_M, nn_M, rfl, (Or.inr ⟨rfl, rfl, rfl⟩)⟩
theorem pf_M_41 : jx_PF "KeyedFoldsModel" "<init>" 41 5 20 (.array .long) := ⟨nc_M, nf_M, 33, "KeyedFoldsModel", nt_M, rfl, by decide, nw_M, (jx_mem 731 (by decide +kernel) rfl), (Or.inl rfl), no_M, nn_M, rfl, (Or.inr ⟨rfl, rfl, rfl⟩)⟩
theorem pf_M_44 : jx_PF "KeyedFoldsModel" "<init>" 44 5 25 (.array .long) := ⟨nc_M, nf_M, 33, "KeyedFoldsModel", nt_M, rfl, by decide, nw_M, (jx_mem 736 (by decide +kernel) rfl), (Or.inl rfl), no_M, nn_M, rfl, (Or.inr ⟨rfl, rfl, rfl⟩)⟩
theorem pf_M_47 : jx_PF "KeyedFoldsModel" "<init>" 47 5 27 (.array .long) := ⟨nc_M, nf_M, 33, "KeyedFoldsModel", nt_M, rfl, by decide, nw_M, (jx_mem 738 (by decide +kernel) rfl), (Or.inl rfl), no_M, nn_M, rfl, (Or.inr ⟨rfl, rfl, rfl⟩)⟩
theorem mv_M_50 : jx_MV "KeyedFoldsModel" "KeyedFoldsModel" 50 md_M_held 1 := ⟨⟨(jx_mem 706 (by decide +kernel) rfl), (jx_mem 709 (by decide +kernel) rfl), (jx_mem 8 (by decide +kernel) rfl), (by decide +kernel), (by decide +kernel)⟩, (jx_mem 708 (by decide +kernel) rfl), (jx_memp 26 (by decide +kernel) rfl)⟩
theorem pf_M_54 : jx_PF "KeyedFoldsModel" "<init>" 54 5 0 .int := ⟨nc_M, nf_M, 33, "KeyedFoldsModel", nt_M, rfl, by decide, nw_M, (jx_mem 711 (by decide +kernel) rfl), (Or.inl rfl), no_M, nn_M, rfl, (Or.inr ⟨rfl, rfl, rfl⟩)⟩
theorem pf_M_58 : jx_PF "KeyedFoldsModel" "<init>" 58 5 1 .int := ⟨nc_M, nf_M, 33, "KeyedFoldsModel", nt_M, rfl, by decide, nw_M, (jx_mem 712 (by decide +kernel) rfl), (Or.inl rfl), no_M, nn_M, rfl, (Or.inr ⟨rfl, rfl, rfl⟩)⟩
theorem pf_M_61 : jx_PF "KeyedFoldsModel" "<init>" 61 5 2 .int := ⟨nc_M, nf_M, 33, "KeyedFoldsModel", nt_M, rfl, by decide, nw_M, (jx_mem 713 (by decide +kernel) rfl), (Or.inl rfl), no_M, nn_M, rfl, (Or.inr ⟨rfl, rfl, rfl⟩)⟩
theorem pf_M_64 : jx_PF "KeyedFoldsModel" "<init>" 64 5 3 .int := ⟨nc_M, nf_M, 33, "KeyedFoldsModel", nt_M, rfl, by decide, nw_M, (jx_mem 714 (by decide +kernel) rfl), (Or.inl rfl), no_M, nn_M, rfl, (Or.inr ⟨rfl, rfl, rfl⟩)⟩
theorem nv_M_70 : Jvm.Cond.constant "KeyedFoldsModel" 70 (100000) ∈ jx_tb := (jx_mem 710 (by decide +kernel) rfl)
theorem gf_M_67 : jx_GF "KeyedFoldsModel" 67 5 4 := ⟨nc_M, nf_M, 33, "KeyedFoldsModel", rfl, by decide, nw_M, (jx_mem 715 (by decide +kernel) rfl), (Or.inl rfl)⟩
theorem gf_M_71 : jx_GF "KeyedFoldsModel" 71 5 5 := ⟨nc_M, nf_M, 33, "KeyedFoldsModel", rfl, by decide, nw_M, (jx_mem 716 (by decide +kernel) rfl), (Or.inl rfl)⟩
theorem gf_M_80 : jx_GF "KeyedFoldsModel" 80 5 28 := ⟨nc_M, nf_M, 33, "KeyedFoldsModel", rfl, by decide, nw_M, (jx_mem 739 (by decide +kernel) rfl), (Or.inl rfl)⟩
theorem pf_M_67 {nm : String} : jx_PF "KeyedFoldsModel" nm 67 5 4 .int := ⟨nc_M, nf_M, 33, "KeyedFoldsModel", nt_M, rfl, by decide, nw_M, (jx_mem 715 (by decide +kernel) rfl), (Or.inl rfl), no_M, nn_M, rfl, (Or.inl rfl)⟩
theorem gf_M_7 : jx_GF "KeyedFoldsModel" 7 5 6 := ⟨nc_M, nf_M, 33, "KeyedFoldsModel", rfl, by decide, nw_M, (jx_mem 717 (by decide +kernel) rfl), (Or.inl rfl)⟩
theorem gf_M_13 : jx_GF "KeyedFoldsModel" 13 5 7 := ⟨nc_M, nf_M, 33, "KeyedFoldsModel", rfl, by decide, nw_M, (jx_mem 718 (by decide +kernel) rfl), (Or.inl rfl)⟩
theorem gf_M_17 : jx_GF "KeyedFoldsModel" 17 5 8 := ⟨nc_M, nf_M, 33, "KeyedFoldsModel", rfl, by decide, nw_M, (jx_mem 719 (by decide +kernel) rfl), (Or.inl rfl)⟩
theorem pf_M_71 {nm : String} : jx_PF "KeyedFoldsModel" nm 71 5 5 .int := ⟨nc_M, nf_M, 33, "KeyedFoldsModel", nt_M, rfl, by decide, nw_M, (jx_mem 716 (by decide +kernel) rfl), (Or.inl rfl), no_M, nn_M, rfl, (Or.inl rfl)⟩
theorem mv_M_83 : jx_MV "KeyedFoldsModel" "KeyedFoldsModel" 83 md_M_isFold 1 := ⟨⟨(jx_mem 824 (by decide +kernel) rfl), (jx_mem 827 (by decide +kernel) rfl), (jx_mem 8 (by decide +kernel) rfl), (by decide +kernel), (by decide +kernel)⟩, (jx_mem 826 (by decide +kernel) rfl), (jx_memp 27 (by decide +kernel) rfl)⟩
theorem gf_M_20 : jx_GF "KeyedFoldsModel" 20 5 9 := ⟨nc_M, nf_M, 33, "KeyedFoldsModel", rfl, by decide, nw_M, (jx_mem 720 (by decide +kernel) rfl), (Or.inl rfl)⟩
theorem mv_M_87 : jx_MV "KeyedFoldsModel" "KeyedFoldsModel" 87 md_M_failsAtIt 2 := ⟨⟨(jx_mem 828 (by decide +kernel) rfl), (jx_mem 831 (by decide +kernel) rfl), (jx_mem 8 (by decide +kernel) rfl), (by decide +kernel), (by decide +kernel)⟩, (jx_mem 830 (by decide +kernel) rfl), (jx_memp 28 (by decide +kernel) rfl)⟩
theorem gf_M_23 : jx_GF "KeyedFoldsModel" 23 5 10 := ⟨nc_M, nf_M, 33, "KeyedFoldsModel", rfl, by decide, nw_M, (jx_mem 721 (by decide +kernel) rfl), (Or.inl rfl)⟩
theorem gf_M_91 : jx_GF "KeyedFoldsModel" 91 5 11 := ⟨nc_M, nf_M, 33, "KeyedFoldsModel", rfl, by decide, nw_M, (jx_mem 722 (by decide +kernel) rfl), (Or.inl rfl)⟩
theorem gf_M_94 : jx_GF "KeyedFoldsModel" 94 5 12 := ⟨nc_M, nf_M, 33, "KeyedFoldsModel", rfl, by decide, nw_M, (jx_mem 723 (by decide +kernel) rfl), (Or.inl rfl)⟩
theorem pf_M_91 {nm : String} : jx_PF "KeyedFoldsModel" nm 91 5 11 .int := ⟨nc_M, nf_M, 33, "KeyedFoldsModel", nt_M, rfl, by decide, nw_M, (jx_mem 722 (by decide +kernel) rfl), (Or.inl rfl), no_M, nn_M, rfl, (Or.inl rfl)⟩
theorem pf_M_94 {nm : String} : jx_PF "KeyedFoldsModel" nm 94 5 12 .int := ⟨nc_M, nf_M, 33, "KeyedFoldsModel", nt_M, rfl, by decide, nw_M, (jx_mem 723 (by decide +kernel) rfl), (Or.inl rfl), no_M, nn_M, rfl, (Or.inl rfl)⟩
theorem nv_M_104 : Jvm.Cond.constantLong "KeyedFoldsModel" 104 (1099511627776) ∈ jx_tb := (jx_mem 840 (by decide +kernel) rfl)
theorem mv_M_106 : jx_MV "KeyedFoldsModel" "KeyedFoldsModel" 106 md_M_stopOf 1 := ⟨⟨(jx_mem 841 (by decide +kernel) rfl), (jx_mem 844 (by decide +kernel) rfl), (jx_mem 8 (by decide +kernel) rfl), (by decide +kernel), (by decide +kernel)⟩, (jx_mem 843 (by decide +kernel) rfl), (jx_memp 29 (by decide +kernel) rfl)⟩
theorem gf_M_110 : jx_GF "KeyedFoldsModel" 110 5 21 := ⟨nc_M, nf_M, 33, "KeyedFoldsModel", rfl, by decide, nw_M, (jx_mem 732 (by decide +kernel) rfl), (Or.inl rfl)⟩
theorem gf_M_114 : jx_GF "KeyedFoldsModel" 114 5 22 := ⟨nc_M, nf_M, 33, "KeyedFoldsModel", rfl, by decide, nw_M, (jx_mem 733 (by decide +kernel) rfl), (Or.inl rfl)⟩
theorem gf_M_118 : jx_GF "KeyedFoldsModel" 118 5 29 := ⟨nc_M, nf_M, 33, "KeyedFoldsModel", rfl, by decide, nw_M, (jx_mem 740 (by decide +kernel) rfl), (Or.inl rfl)⟩
theorem pf_M_118 {nm : String} : jx_PF "KeyedFoldsModel" nm 118 5 29 .int := ⟨nc_M, nf_M, 33, "KeyedFoldsModel", nt_M, rfl, by decide, nw_M, (jx_mem 740 (by decide +kernel) rfl), (Or.inl rfl), no_M, nn_M, rfl, (Or.inl rfl)⟩
theorem mv_M_121 : jx_MV "KeyedFoldsModel" "KeyedFoldsModel" 121 md_M_putAside 4 := ⟨⟨(jx_mem 845 (by decide +kernel) rfl), (jx_mem 848 (by decide +kernel) rfl), (jx_mem 8 (by decide +kernel) rfl), (by decide +kernel), (by decide +kernel)⟩, (jx_mem 847 (by decide +kernel) rfl), (jx_memp 30 (by decide +kernel) rfl)⟩
theorem mv_M_125 : jx_MV "KeyedFoldsModel" "KeyedFoldsModel" 125 md_M_keyOf 1 := ⟨⟨(jx_mem 849 (by decide +kernel) rfl), (jx_mem 852 (by decide +kernel) rfl), (jx_mem 8 (by decide +kernel) rfl), (by decide +kernel), (by decide +kernel)⟩, (jx_mem 851 (by decide +kernel) rfl), (jx_memp 31 (by decide +kernel) rfl)⟩
theorem mv_M_128 : jx_MV "KeyedFoldsModel" "KeyedFoldsModel" 128 md_M_isDouble 3 := ⟨⟨(jx_mem 853 (by decide +kernel) rfl), (jx_mem 856 (by decide +kernel) rfl), (jx_mem 8 (by decide +kernel) rfl), (by decide +kernel), (by decide +kernel)⟩, (jx_mem 855 (by decide +kernel) rfl), (jx_memp 32 (by decide +kernel) rfl)⟩
theorem gf_M_132 : jx_GF "KeyedFoldsModel" 132 5 30 := ⟨nc_M, nf_M, 33, "KeyedFoldsModel", rfl, by decide, nw_M, (jx_mem 741 (by decide +kernel) rfl), (Or.inl rfl)⟩
theorem pf_M_132 {nm : String} : jx_PF "KeyedFoldsModel" nm 132 5 30 .int := ⟨nc_M, nf_M, 33, "KeyedFoldsModel", nt_M, rfl, by decide, nw_M, (jx_mem 741 (by decide +kernel) rfl), (Or.inl rfl), no_M, nn_M, rfl, (Or.inl rfl)⟩
theorem mv_M_135 : jx_MV "KeyedFoldsModel" "KeyedFoldsModel" 135 md_M_causeOf 1 := ⟨⟨(jx_mem 857 (by decide +kernel) rfl), (jx_mem 860 (by decide +kernel) rfl), (jx_mem 8 (by decide +kernel) rfl), (by decide +kernel), (by decide +kernel)⟩, (jx_mem 859 (by decide +kernel) rfl), (jx_memp 33 (by decide +kernel) rfl)⟩
theorem gf_M_138 : jx_GF "KeyedFoldsModel" 138 5 31 := ⟨nc_M, nf_M, 33, "KeyedFoldsModel", rfl, by decide, nw_M, (jx_mem 742 (by decide +kernel) rfl), (Or.inl rfl)⟩
theorem pf_M_138 {nm : String} : jx_PF "KeyedFoldsModel" nm 138 5 31 .int := ⟨nc_M, nf_M, 33, "KeyedFoldsModel", nt_M, rfl, by decide, nw_M, (jx_mem 742 (by decide +kernel) rfl), (Or.inl rfl), no_M, nn_M, rfl, (Or.inl rfl)⟩
theorem gf_M_41 : jx_GF "KeyedFoldsModel" 41 5 20 := ⟨nc_M, nf_M, 33, "KeyedFoldsModel", rfl, by decide, nw_M, (jx_mem 731 (by decide +kernel) rfl), (Or.inl rfl)⟩
theorem gf_M_77 : jx_GF "KeyedFoldsModel" 77 5 19 := ⟨nc_M, nf_M, 33, "KeyedFoldsModel", rfl, by decide, nw_M, (jx_mem 730 (by decide +kernel) rfl), (Or.inl rfl)⟩
theorem pf_M_77 {nm : String} : jx_PF "KeyedFoldsModel" nm 77 5 19 .int := ⟨nc_M, nf_M, 33, "KeyedFoldsModel", nt_M, rfl, by decide, nw_M, (jx_mem 730 (by decide +kernel) rfl), (Or.inl rfl), no_M, nn_M, rfl, (Or.inl rfl)⟩
theorem gf_M_74 : jx_GF "KeyedFoldsModel" 74 5 13 := ⟨nc_M, nf_M, 33, "KeyedFoldsModel", rfl, by decide, nw_M, (jx_mem 724 (by decide +kernel) rfl), (Or.inl rfl)⟩
theorem gf_M_29 : jx_GF "KeyedFoldsModel" 29 5 15 := ⟨nc_M, nf_M, 33, "KeyedFoldsModel", rfl, by decide, nw_M, (jx_mem 726 (by decide +kernel) rfl), (Or.inl rfl)⟩
theorem gf_M_26 : jx_GF "KeyedFoldsModel" 26 5 14 := ⟨nc_M, nf_M, 33, "KeyedFoldsModel", rfl, by decide, nw_M, (jx_mem 725 (by decide +kernel) rfl), (Or.inl rfl)⟩
theorem pf_M_74 {nm : String} : jx_PF "KeyedFoldsModel" nm 74 5 13 .int := ⟨nc_M, nf_M, 33, "KeyedFoldsModel", nt_M, rfl, by decide, nw_M, (jx_mem 724 (by decide +kernel) rfl), (Or.inl rfl), no_M, nn_M, rfl, (Or.inl rfl)⟩
theorem mv_M_141 : jx_MV "KeyedFoldsModel" "KeyedFoldsModel" 141 md_M_take 3 := ⟨⟨(jx_mem 861 (by decide +kernel) rfl), (jx_mem 864 (by decide +kernel) rfl), (jx_mem 8 (by decide +kernel) rfl), (by decide +kernel), (by decide +kernel)⟩, (jx_mem 863 (by decide +kernel) rfl), (jx_memp 34 (by decide +kernel) rfl)⟩
theorem gf_M_101 : jx_GF "KeyedFoldsModel" 101 5 24 := ⟨nc_M, nf_M, 33, "KeyedFoldsModel", rfl, by decide, nw_M, (jx_mem 735 (by decide +kernel) rfl), (Or.inl rfl)⟩
theorem gf_M_44 : jx_GF "KeyedFoldsModel" 44 5 25 := ⟨nc_M, nf_M, 33, "KeyedFoldsModel", rfl, by decide, nw_M, (jx_mem 736 (by decide +kernel) rfl), (Or.inl rfl)⟩
theorem pf_M_101 {nm : String} : jx_PF "KeyedFoldsModel" nm 101 5 24 .int := ⟨nc_M, nf_M, 33, "KeyedFoldsModel", nt_M, rfl, by decide, nw_M, (jx_mem 735 (by decide +kernel) rfl), (Or.inl rfl), no_M, nn_M, rfl, (Or.inl rfl)⟩
theorem gf_M_35 : jx_GF "KeyedFoldsModel" 35 5 17 := ⟨nc_M, nf_M, 33, "KeyedFoldsModel", rfl, by decide, nw_M, (jx_mem 728 (by decide +kernel) rfl), (Or.inl rfl)⟩
theorem gf_M_38 : jx_GF "KeyedFoldsModel" 38 5 18 := ⟨nc_M, nf_M, 33, "KeyedFoldsModel", rfl, by decide, nw_M, (jx_mem 729 (by decide +kernel) rfl), (Or.inl rfl)⟩
theorem gf_M_61 : jx_GF "KeyedFoldsModel" 61 5 2 := ⟨nc_M, nf_M, 33, "KeyedFoldsModel", rfl, by decide, nw_M, (jx_mem 713 (by decide +kernel) rfl), (Or.inl rfl)⟩
theorem pf_M_80 {nm : String} : jx_PF "KeyedFoldsModel" nm 80 5 28 .int := ⟨nc_M, nf_M, 33, "KeyedFoldsModel", nt_M, rfl, by decide, nw_M, (jx_mem 739 (by decide +kernel) rfl), (Or.inl rfl), no_M, nn_M, rfl, (Or.inl rfl)⟩
theorem gf_M_32 : jx_GF "KeyedFoldsModel" 32 5 16 := ⟨nc_M, nf_M, 33, "KeyedFoldsModel", rfl, by decide, nw_M, (jx_mem 727 (by decide +kernel) rfl), (Or.inl rfl)⟩
theorem mv_M_145 : jx_MV "KeyedFoldsModel" "KeyedFoldsModel" 145 md_M_mayBeJoined 1 := ⟨⟨(jx_mem 865 (by decide +kernel) rfl), (jx_mem 868 (by decide +kernel) rfl), (jx_mem 8 (by decide +kernel) rfl), (by decide +kernel), (by decide +kernel)⟩, (jx_mem 867 (by decide +kernel) rfl), (jx_memp 35 (by decide +kernel) rfl)⟩
theorem gf_M_54 : jx_GF "KeyedFoldsModel" 54 5 0 := ⟨nc_M, nf_M, 33, "KeyedFoldsModel", rfl, by decide, nw_M, (jx_mem 711 (by decide +kernel) rfl), (Or.inl rfl)⟩
theorem pf_M_114 {nm : String} : jx_PF "KeyedFoldsModel" nm 114 5 22 .long := ⟨nc_M, nf_M, 33, "KeyedFoldsModel", nt_M, rfl, by decide, nw_M, (jx_mem 733 (by decide +kernel) rfl), (Or.inl rfl), no_M, nn_M, rfl, (Or.inl rfl)⟩
theorem pf_M_110 {nm : String} : jx_PF "KeyedFoldsModel" nm 110 5 21 .boolean := ⟨nc_M, nf_M, 33, "KeyedFoldsModel", nt_M, rfl, by decide, nw_M, (jx_mem 732 (by decide +kernel) rfl), (Or.inl rfl), no_M, nn_M, rfl, (Or.inl rfl)⟩
theorem gf_M_58 : jx_GF "KeyedFoldsModel" 58 5 1 := ⟨nc_M, nf_M, 33, "KeyedFoldsModel", rfl, by decide, nw_M, (jx_mem 712 (by decide +kernel) rfl), (Or.inl rfl)⟩
theorem mv_M_148 : jx_MV "KeyedFoldsModel" "KeyedFoldsModel" 148 md_M_leave 1 := ⟨⟨(jx_mem 869 (by decide +kernel) rfl), (jx_mem 872 (by decide +kernel) rfl), (jx_mem 8 (by decide +kernel) rfl), (by decide +kernel), (by decide +kernel)⟩, (jx_mem 871 (by decide +kernel) rfl), (jx_memp 36 (by decide +kernel) rfl)⟩
theorem gf_M_64 : jx_GF "KeyedFoldsModel" 64 5 3 := ⟨nc_M, nf_M, 33, "KeyedFoldsModel", rfl, by decide, nw_M, (jx_mem 714 (by decide +kernel) rfl), (Or.inl rfl)⟩
theorem mv_M_152 : jx_MV "KeyedFoldsModel" "KeyedFoldsModel" 152 md_M_timers 0 := ⟨⟨(jx_mem 877 (by decide +kernel) rfl), (jx_mem 880 (by decide +kernel) rfl), (jx_mem 8 (by decide +kernel) rfl), (by decide +kernel), (by decide +kernel)⟩, (jx_mem 879 (by decide +kernel) rfl), (jx_memp 38 (by decide +kernel) rfl)⟩
theorem gf_M_155 : jx_GF "KeyedFoldsModel" 155 5 32 := ⟨nc_M, nf_M, 33, "KeyedFoldsModel", rfl, by decide, nw_M, (jx_mem 743 (by decide +kernel) rfl), (Or.inl rfl)⟩
theorem pf_M_155 {nm : String} : jx_PF "KeyedFoldsModel" nm 155 5 32 .int := ⟨nc_M, nf_M, 33, "KeyedFoldsModel", nt_M, rfl, by decide, nw_M, (jx_mem 743 (by decide +kernel) rfl), (Or.inl rfl), no_M, nn_M, rfl, (Or.inl rfl)⟩
theorem mv_M_158 : jx_MV "KeyedFoldsModel" "KeyedFoldsModel" 158 md_M_mayBeTakenBack 1 := ⟨⟨(jx_mem 873 (by decide +kernel) rfl), (jx_mem 876 (by decide +kernel) rfl), (jx_mem 8 (by decide +kernel) rfl), (by decide +kernel), (by decide +kernel)⟩, (jx_mem 875 (by decide +kernel) rfl), (jx_memp 37 (by decide +kernel) rfl)⟩
theorem nv_M_161 : Jvm.Cond.constantLong "KeyedFoldsModel" 161 (19) ∈ jx_tb := (jx_mem 881 (by decide +kernel) rfl)
theorem gf_M_163 : jx_GF "KeyedFoldsModel" 163 5 23 := ⟨nc_M, nf_M, 33, "KeyedFoldsModel", rfl, by decide, nw_M, (jx_mem 734 (by decide +kernel) rfl), (Or.inl rfl)⟩
theorem mv_M_166 : jx_MV "KeyedFoldsModel" "KeyedFoldsModel" 166 md_M_tell 2 := ⟨⟨(jx_mem 882 (by decide +kernel) rfl), (jx_mem 885 (by decide +kernel) rfl), (jx_mem 8 (by decide +kernel) rfl), (by decide +kernel), (by decide +kernel)⟩, (jx_mem 884 (by decide +kernel) rfl), (jx_memp 39 (by decide +kernel) rfl)⟩
theorem pf_M_163 {nm : String} : jx_PF "KeyedFoldsModel" nm 163 5 23 .long := ⟨nc_M, nf_M, 33, "KeyedFoldsModel", nt_M, rfl, by decide, nw_M, (jx_mem 734 (by decide +kernel) rfl), (Or.inl rfl), no_M, nn_M, rfl, (Or.inl rfl)⟩
theorem gf_M_170 : jx_GF "KeyedFoldsModel" 170 5 26 := ⟨nc_M, nf_M, 33, "KeyedFoldsModel", rfl, by decide, nw_M, (jx_mem 737 (by decide +kernel) rfl), (Or.inl rfl)⟩
theorem gf_M_47 : jx_GF "KeyedFoldsModel" 47 5 27 := ⟨nc_M, nf_M, 33, "KeyedFoldsModel", rfl, by decide, nw_M, (jx_mem 738 (by decide +kernel) rfl), (Or.inl rfl)⟩
theorem mv_M_173 : jx_MV "KeyedFoldsModel" "KeyedFoldsModel" 173 md_M_foldOf 3 := ⟨⟨(jx_mem 886 (by decide +kernel) rfl), (jx_mem 889 (by decide +kernel) rfl), (jx_mem 8 (by decide +kernel) rfl), (by decide +kernel), (by decide +kernel)⟩, (jx_mem 888 (by decide +kernel) rfl), (jx_memp 40 (by decide +kernel) rfl)⟩
theorem pf_M_170 {nm : String} : jx_PF "KeyedFoldsModel" nm 170 5 26 .int := ⟨nc_M, nf_M, 33, "KeyedFoldsModel", nt_M, rfl, by decide, nw_M, (jx_mem 737 (by decide +kernel) rfl), (Or.inl rfl), no_M, nn_M, rfl, (Or.inl rfl)⟩
theorem mv_M_97 : jx_MV "KeyedFoldsModel" "KeyedFoldsModel" 97 md_M_step 6 := ⟨⟨(jx_mem 890 (by decide +kernel) rfl), (jx_mem 893 (by decide +kernel) rfl), (jx_mem 8 (by decide +kernel) rfl), (by decide +kernel), (by decide +kernel)⟩, (jx_mem 892 (by decide +kernel) rfl), (jx_memp 41 (by decide +kernel) rfl)⟩
theorem nv_M_177 : Jvm.Cond.constantLong "KeyedFoldsModel" 177 (1125899906842624) ∈ jx_tb := (jx_mem 902 (by decide +kernel) rfl)
theorem nk_L_8 : Cond.classLink "KeyedFoldsLaw" 8 nc_K ∈ jx_tb := (jx_mem 22 (by decide +kernel) rfl)
theorem ms_L_70 : jx_MS "KeyedFoldsLaw" 70 md_L_cell 2 := ⟨⟨(jx_mem 156 (by decide +kernel) rfl), (jx_mem 158 (by decide +kernel) rfl), (jx_mem 0 (by decide +kernel) rfl), (by decide +kernel), (by decide +kernel)⟩, (jx_mem 157 (by decide +kernel) rfl)⟩
theorem mi_L_76 : jx_MI "KeyedFoldsLaw" 76 md_K_init 4 := ⟨⟨(jx_mem 24 (by decide +kernel) rfl), (jx_mem 26 (by decide +kernel) rfl), (jx_mem 1 (by decide +kernel) rfl), (by decide +kernel), (by decide +kernel)⟩, rfl, (jx_mem 25 (by decide +kernel) rfl), rfl⟩
theorem nk_L_79 : Cond.classLink "KeyedFoldsLaw" 79 nc_M ∈ jx_tb := (jx_mem 700 (by decide +kernel) rfl)
theorem mi_L_81 : jx_MI "KeyedFoldsLaw" 81 md_M_init 4 := ⟨⟨(jx_mem 702 (by decide +kernel) rfl), (jx_mem 704 (by decide +kernel) rfl), (jx_mem 8 (by decide +kernel) rfl), (by decide +kernel), (by decide +kernel)⟩, rfl, (jx_mem 703 (by decide +kernel) rfl), rfl⟩
theorem nv_L_82 : Jvm.Cond.constantLong "KeyedFoldsLaw" 82 (4294967295) ∈ jx_tb := (jx_mem 935 (by decide +kernel) rfl)
theorem mk_L_84 : Cond.methodLink "KeyedFoldsLaw" 84 md_L_fold.1 ∈ jx_tb ∧ Cond.codeWith md_L_fold.1 md_L_fold.2.1 md_L_fold.2.2.1 md_L_fold.2.2.2 mh_L_fold ∈ jx_tb ∧ Cond.initialized "KeyedFoldsLaw" ∈ jx_tb ∧ Cond.static md_L_fold.1 ∈ jx_tb := ⟨(jx_mem 159 (by decide +kernel) rfl), (jx_mem 161 (by decide +kernel) rfl), (jx_mem 0 (by decide +kernel) rfl), (jx_mem 160 (by decide +kernel) rfl)⟩
theorem mv_L_87 : jx_MV "KeyedFoldsLaw" "KeyedFoldsModel" 87 md_M_fold 3 := ⟨⟨(jx_mem 816 (by decide +kernel) rfl), (jx_mem 819 (by decide +kernel) rfl), (jx_mem 8 (by decide +kernel) rfl), (by decide +kernel), (by decide +kernel)⟩, (jx_mem 817 (by decide +kernel) rfl), (jx_mem 818 (by decide +kernel) rfl)⟩
theorem mv_L_88 : jx_MV "KeyedFoldsLaw" "KeyedFoldsModel" 88 md_M_thrown 0 := ⟨⟨(jx_mem 812 (by decide +kernel) rfl), (jx_mem 815 (by decide +kernel) rfl), (jx_mem 8 (by decide +kernel) rfl), (by decide +kernel), (by decide +kernel)⟩, (jx_mem 813 (by decide +kernel) rfl), (jx_mem 814 (by decide +kernel) rfl)⟩
theorem mk_L_92 : Cond.methodLink "KeyedFoldsLaw" 92 md_L_failsAt.1 ∈ jx_tb ∧ Cond.codeWith md_L_failsAt.1 md_L_failsAt.2.1 md_L_failsAt.2.2.1 md_L_failsAt.2.2.2 mh_L_failsAt ∈ jx_tb ∧ Cond.initialized "KeyedFoldsLaw" ∈ jx_tb ∧ Cond.static md_L_failsAt.1 ∈ jx_tb := ⟨(jx_mem 335 (by decide +kernel) rfl), (jx_mem 337 (by decide +kernel) rfl), (jx_mem 0 (by decide +kernel) rfl), (jx_mem 336 (by decide +kernel) rfl)⟩
theorem mv_L_95 : jx_MV "KeyedFoldsLaw" "KeyedFoldsModel" 95 md_M_failsAt 2 := ⟨⟨(jx_mem 820 (by decide +kernel) rfl), (jx_mem 823 (by decide +kernel) rfl), (jx_mem 8 (by decide +kernel) rfl), (by decide +kernel), (by decide +kernel)⟩, (jx_mem 821 (by decide +kernel) rfl), (jx_mem 822 (by decide +kernel) rfl)⟩
theorem mk_L_96 : Cond.methodLink "KeyedFoldsLaw" 96 md_L_rule.1 ∈ jx_tb ∧ Cond.codeWith md_L_rule.1 md_L_rule.2.1 md_L_rule.2.2.1 md_L_rule.2.2.2 mh_L_rule ∈ jx_tb ∧ Cond.initialized "KeyedFoldsLaw" ∈ jx_tb ∧ Cond.static md_L_rule.1 ∈ jx_tb := ⟨(jx_mem 387 (by decide +kernel) rfl), (jx_mem 389 (by decide +kernel) rfl), (jx_mem 0 (by decide +kernel) rfl), (jx_mem 388 (by decide +kernel) rfl)⟩
theorem mv_L_99 : jx_MV "KeyedFoldsLaw" "KeyedFoldsModel" 99 md_M_rule 2 := ⟨⟨(jx_mem 832 (by decide +kernel) rfl), (jx_mem 835 (by decide +kernel) rfl), (jx_mem 8 (by decide +kernel) rfl), (by decide +kernel), (by decide +kernel)⟩, (jx_mem 833 (by decide +kernel) rfl), (jx_mem 834 (by decide +kernel) rfl)⟩
theorem mk_L_100 : Cond.methodLink "KeyedFoldsLaw" 100 md_L_row.1 ∈ jx_tb ∧ Cond.codeWith md_L_row.1 md_L_row.2.1 md_L_row.2.2.1 md_L_row.2.2.2 mh_L_row ∈ jx_tb ∧ Cond.initialized "KeyedFoldsLaw" ∈ jx_tb ∧ Cond.static md_L_row.1 ∈ jx_tb := ⟨(jx_mem 396 (by decide +kernel) rfl), (jx_mem 398 (by decide +kernel) rfl), (jx_mem 0 (by decide +kernel) rfl), (jx_mem 397 (by decide +kernel) rfl)⟩
theorem mv_L_103 : jx_MV "KeyedFoldsLaw" "KeyedFoldsModel" 103 md_M_row 3 := ⟨⟨(jx_mem 836 (by decide +kernel) rfl), (jx_mem 839 (by decide +kernel) rfl), (jx_mem 8 (by decide +kernel) rfl), (by decide +kernel), (by decide +kernel)⟩, (jx_mem 837 (by decide +kernel) rfl), (jx_mem 838 (by decide +kernel) rfl)⟩
theorem mk_L_104 : Cond.methodLink "KeyedFoldsLaw" 104 md_L_resume.1 ∈ jx_tb ∧ Cond.codeWith md_L_resume.1 md_L_resume.2.1 md_L_resume.2.2.1 md_L_resume.2.2.2 mh_L_resume ∈ jx_tb ∧ Cond.initialized "KeyedFoldsLaw" ∈ jx_tb ∧ Cond.static md_L_resume.1 ∈ jx_tb := ⟨(jx_mem 598 (by decide +kernel) rfl), (jx_mem 600 (by decide +kernel) rfl), (jx_mem 0 (by decide +kernel) rfl), (jx_mem 599 (by decide +kernel) rfl)⟩
theorem mv_L_107 : jx_MV "KeyedFoldsLaw" "KeyedFoldsModel" 107 md_M_resume 1 := ⟨⟨(jx_mem 894 (by decide +kernel) rfl), (jx_mem 897 (by decide +kernel) rfl), (jx_mem 8 (by decide +kernel) rfl), (by decide +kernel), (by decide +kernel)⟩, (jx_mem 895 (by decide +kernel) rfl), (jx_mem 896 (by decide +kernel) rfl)⟩
theorem mk_L_108 : Cond.methodLink "KeyedFoldsLaw" 108 md_L_state.1 ∈ jx_tb ∧ Cond.codeWith md_L_state.1 md_L_state.2.1 md_L_state.2.2.1 md_L_state.2.2.2 mh_L_state ∈ jx_tb ∧ Cond.initialized "KeyedFoldsLaw" ∈ jx_tb ∧ Cond.static md_L_state.1 ∈ jx_tb := ⟨(jx_mem 610 (by decide +kernel) rfl), (jx_mem 612 (by decide +kernel) rfl), (jx_mem 0 (by decide +kernel) rfl), (jx_mem 611 (by decide +kernel) rfl)⟩
theorem mv_L_111 : jx_MV "KeyedFoldsLaw" "KeyedFoldsModel" 111 md_M_state 2 := ⟨⟨(jx_mem 898 (by decide +kernel) rfl), (jx_mem 901 (by decide +kernel) rfl), (jx_mem 8 (by decide +kernel) rfl), (by decide +kernel), (by decide +kernel)⟩, (jx_mem 899 (by decide +kernel) rfl), (jx_mem 900 (by decide +kernel) rfl)⟩
theorem mk_L_112 : Cond.methodLink "KeyedFoldsLaw" 112 md_L_key.1 ∈ jx_tb ∧ Cond.codeWith md_L_key.1 md_L_key.2.1 md_L_key.2.2.1 md_L_key.2.2.2 mh_L_key ∈ jx_tb ∧ Cond.initialized "KeyedFoldsLaw" ∈ jx_tb ∧ Cond.static md_L_key.1 ∈ jx_tb := ⟨(jx_mem 618 (by decide +kernel) rfl), (jx_mem 620 (by decide +kernel) rfl), (jx_mem 0 (by decide +kernel) rfl), (jx_mem 619 (by decide +kernel) rfl)⟩
theorem mv_L_114 : jx_MV "KeyedFoldsLaw" "KeyedFoldsModel" 114 md_M_key 2 := ⟨⟨(jx_mem 903 (by decide +kernel) rfl), (jx_mem 906 (by decide +kernel) rfl), (jx_mem 8 (by decide +kernel) rfl), (by decide +kernel), (by decide +kernel)⟩, (jx_mem 904 (by decide +kernel) rfl), (jx_mem 905 (by decide +kernel) rfl)⟩
theorem mk_L_115 : Cond.methodLink "KeyedFoldsLaw" 115 md_L_rowOf.1 ∈ jx_tb ∧ Cond.codeWith md_L_rowOf.1 md_L_rowOf.2.1 md_L_rowOf.2.2.1 md_L_rowOf.2.2.2 mh_L_rowOf ∈ jx_tb ∧ Cond.initialized "KeyedFoldsLaw" ∈ jx_tb ∧ Cond.static md_L_rowOf.1 ∈ jx_tb := ⟨(jx_mem 626 (by decide +kernel) rfl), (jx_mem 628 (by decide +kernel) rfl), (jx_mem 0 (by decide +kernel) rfl), (jx_mem 627 (by decide +kernel) rfl)⟩
theorem mv_L_118 : jx_MV "KeyedFoldsLaw" "KeyedFoldsModel" 118 md_M_rowOf 3 := ⟨⟨(jx_mem 907 (by decide +kernel) rfl), (jx_mem 910 (by decide +kernel) rfl), (jx_mem 8 (by decide +kernel) rfl), (by decide +kernel), (by decide +kernel)⟩, (jx_mem 908 (by decide +kernel) rfl), (jx_mem 909 (by decide +kernel) rfl)⟩
theorem mk_L_119 : Cond.methodLink "KeyedFoldsLaw" 119 md_L_aside.1 ∈ jx_tb ∧ Cond.codeWith md_L_aside.1 md_L_aside.2.1 md_L_aside.2.2.1 md_L_aside.2.2.2 mh_L_aside ∈ jx_tb ∧ Cond.initialized "KeyedFoldsLaw" ∈ jx_tb ∧ Cond.static md_L_aside.1 ∈ jx_tb := ⟨(jx_mem 635 (by decide +kernel) rfl), (jx_mem 637 (by decide +kernel) rfl), (jx_mem 0 (by decide +kernel) rfl), (jx_mem 636 (by decide +kernel) rfl)⟩
theorem mv_L_121 : jx_MV "KeyedFoldsLaw" "KeyedFoldsModel" 121 md_M_aside 2 := ⟨⟨(jx_mem 911 (by decide +kernel) rfl), (jx_mem 914 (by decide +kernel) rfl), (jx_mem 8 (by decide +kernel) rfl), (by decide +kernel), (by decide +kernel)⟩, (jx_mem 912 (by decide +kernel) rfl), (jx_mem 913 (by decide +kernel) rfl)⟩
theorem mk_L_122 : Cond.methodLink "KeyedFoldsLaw" 122 md_L_output.1 ∈ jx_tb ∧ Cond.codeWith md_L_output.1 md_L_output.2.1 md_L_output.2.2.1 md_L_output.2.2.2 mh_L_output ∈ jx_tb ∧ Cond.initialized "KeyedFoldsLaw" ∈ jx_tb ∧ Cond.static md_L_output.1 ∈ jx_tb := ⟨(jx_mem 652 (by decide +kernel) rfl), (jx_mem 654 (by decide +kernel) rfl), (jx_mem 0 (by decide +kernel) rfl), (jx_mem 653 (by decide +kernel) rfl)⟩
theorem mv_L_124 : jx_MV "KeyedFoldsLaw" "KeyedFoldsModel" 124 md_M_output 2 := ⟨⟨(jx_mem 915 (by decide +kernel) rfl), (jx_mem 918 (by decide +kernel) rfl), (jx_mem 8 (by decide +kernel) rfl), (by decide +kernel), (by decide +kernel)⟩, (jx_mem 916 (by decide +kernel) rfl), (jx_mem 917 (by decide +kernel) rfl)⟩
theorem mk_L_125 : Cond.methodLink "KeyedFoldsLaw" 125 md_L_watermark.1 ∈ jx_tb ∧ Cond.codeWith md_L_watermark.1 md_L_watermark.2.1 md_L_watermark.2.2.1 md_L_watermark.2.2.2 mh_L_watermark ∈ jx_tb ∧ Cond.initialized "KeyedFoldsLaw" ∈ jx_tb ∧ Cond.static md_L_watermark.1 ∈ jx_tb := ⟨(jx_mem 661 (by decide +kernel) rfl), (jx_mem 663 (by decide +kernel) rfl), (jx_mem 0 (by decide +kernel) rfl), (jx_mem 662 (by decide +kernel) rfl)⟩
theorem mv_L_128 : jx_MV "KeyedFoldsLaw" "KeyedFoldsModel" 128 md_M_watermark 0 := ⟨⟨(jx_mem 919 (by decide +kernel) rfl), (jx_mem 922 (by decide +kernel) rfl), (jx_mem 8 (by decide +kernel) rfl), (by decide +kernel), (by decide +kernel)⟩, (jx_mem 920 (by decide +kernel) rfl), (jx_mem 921 (by decide +kernel) rfl)⟩
theorem mk_L_129 : Cond.methodLink "KeyedFoldsLaw" 129 md_L_told.1 ∈ jx_tb ∧ Cond.codeWith md_L_told.1 md_L_told.2.1 md_L_told.2.2.1 md_L_told.2.2.2 mh_L_told ∈ jx_tb ∧ Cond.initialized "KeyedFoldsLaw" ∈ jx_tb ∧ Cond.static md_L_told.1 ∈ jx_tb := ⟨(jx_mem 669 (by decide +kernel) rfl), (jx_mem 671 (by decide +kernel) rfl), (jx_mem 0 (by decide +kernel) rfl), (jx_mem 670 (by decide +kernel) rfl)⟩
theorem mv_L_132 : jx_MV "KeyedFoldsLaw" "KeyedFoldsModel" 132 md_M_told 1 := ⟨⟨(jx_mem 923 (by decide +kernel) rfl), (jx_mem 926 (by decide +kernel) rfl), (jx_mem 8 (by decide +kernel) rfl), (by decide +kernel), (by decide +kernel)⟩, (jx_mem 924 (by decide +kernel) rfl), (jx_mem 925 (by decide +kernel) rfl)⟩
theorem mk_L_133 : Cond.methodLink "KeyedFoldsLaw" 133 md_L_folded.1 ∈ jx_tb ∧ Cond.codeWith md_L_folded.1 md_L_folded.2.1 md_L_folded.2.2.1 md_L_folded.2.2.2 mh_L_folded ∈ jx_tb ∧ Cond.initialized "KeyedFoldsLaw" ∈ jx_tb ∧ Cond.static md_L_folded.1 ∈ jx_tb := ⟨(jx_mem 677 (by decide +kernel) rfl), (jx_mem 679 (by decide +kernel) rfl), (jx_mem 0 (by decide +kernel) rfl), (jx_mem 678 (by decide +kernel) rfl)⟩
theorem mv_L_136 : jx_MV "KeyedFoldsLaw" "KeyedFoldsModel" 136 md_M_folded 1 := ⟨⟨(jx_mem 927 (by decide +kernel) rfl), (jx_mem 930 (by decide +kernel) rfl), (jx_mem 8 (by decide +kernel) rfl), (by decide +kernel), (by decide +kernel)⟩, (jx_mem 928 (by decide +kernel) rfl), (jx_mem 929 (by decide +kernel) rfl)⟩
theorem mk_L_137 : Cond.methodLink "KeyedFoldsLaw" 137 md_L_joined.1 ∈ jx_tb ∧ Cond.codeWith md_L_joined.1 md_L_joined.2.1 md_L_joined.2.2.1 md_L_joined.2.2.2 mh_L_joined ∈ jx_tb ∧ Cond.initialized "KeyedFoldsLaw" ∈ jx_tb ∧ Cond.static md_L_joined.1 ∈ jx_tb := ⟨(jx_mem 688 (by decide +kernel) rfl), (jx_mem 690 (by decide +kernel) rfl), (jx_mem 0 (by decide +kernel) rfl), (jx_mem 689 (by decide +kernel) rfl)⟩
theorem mv_L_139 : jx_MV "KeyedFoldsLaw" "KeyedFoldsModel" 139 md_M_joined 1 := ⟨⟨(jx_mem 931 (by decide +kernel) rfl), (jx_mem 934 (by decide +kernel) rfl), (jx_mem 8 (by decide +kernel) rfl), (by decide +kernel), (by decide +kernel)⟩, (jx_mem 932 (by decide +kernel) rfl), (jx_mem 933 (by decide +kernel) rfl)⟩
theorem ni_F : Cond.instantiable nc_F 5 ∈ jx_tb := (jx_mem 258 (by decide +kernel) rfl)
theorem nd_F : Cond.initialized nc_F ∈ jx_tb := (jx_mem 14 (by decide +kernel) rfl)
theorem ni_R : Cond.instantiable nc_R 7 ∈ jx_tb := (jx_mem 460 (by decide +kernel) rfl)
theorem nd_R : Cond.initialized nc_R ∈ jx_tb := (jx_mem 21 (by decide +kernel) rfl)
theorem ni_S : Cond.instantiable nc_S 2 ∈ jx_tb := (jx_mem 57 (by decide +kernel) rfl)
theorem nd_S : Cond.initialized nc_S ∈ jx_tb := (jx_mem 5 (by decide +kernel) rfl)
theorem ni_T : Cond.instantiable nc_T 4 ∈ jx_tb := (jx_mem 71 (by decide +kernel) rfl)
theorem nd_T : Cond.initialized nc_T ∈ jx_tb := (jx_mem 6 (by decide +kernel) rfl)
theorem ni_K : Cond.instantiable nc_K 18 ∈ jx_tb := (jx_mem 23 (by decide +kernel) rfl)
theorem nd_K : Cond.initialized nc_K ∈ jx_tb := (jx_mem 1 (by decide +kernel) rfl)
theorem ni_M : Cond.instantiable nc_M 33 ∈ jx_tb := (jx_mem 701 (by decide +kernel) rfl)
theorem nd_M : Cond.initialized nc_M ∈ jx_tb := (jx_mem 8 (by decide +kernel) rfl)
theorem ni_A : Cond.instantiable nc_A 3 ∈ jx_tb := (jx_mem 31 (by decide +kernel) rfl)
theorem nd_A : Cond.initialized nc_A ∈ jx_tb := (jx_mem 4 (by decide +kernel) rfl)
theorem na_long : Cond.arrayClass .long ∈ jx_tb := (jx_mem 69 (by decide +kernel) rfl)
theorem na_byte : Cond.arrayClass .byte ∈ jx_tb := (jx_mem 235 (by decide +kernel) rfl)
theorem na_int : Cond.arrayClass .int ∈ jx_tb := (jx_mem 811 (by decide +kernel) rfl)
theorem nx_F_KeyedFolds_Fold : Cond.castable "KeyedFolds$Fold" "KeyedFolds$Fold" ∈ jx_nb := jx_nbm 937 (by decide +kernel) rfl
theorem nx_R_KeyedFolds_KeyRows : Cond.castable "KeyedFolds$KeyRows" "KeyedFolds$KeyRows" ∈ jx_nb := jx_nbm 938 (by decide +kernel) rfl
theorem nx_K_java_lang_Object : Cond.castable "KeyedFolds" "java/lang/Object" ∈ jx_nb := jx_nbm 942 (by decide +kernel) rfl
theorem nx_S_java_lang_Object : Cond.castable "KeyedFolds$StoppedKeys" "java/lang/Object" ∈ jx_nb := jx_nbm 943 (by decide +kernel) rfl
theorem nx_T_java_lang_Object : Cond.castable "KeyedFolds$Table" "java/lang/Object" ∈ jx_nb := jx_nbm 944 (by decide +kernel) rfl
theorem nx_M_java_lang_Object : Cond.castable "KeyedFoldsModel" "java/lang/Object" ∈ jx_nb := jx_nbm 945 (by decide +kernel) rfl
theorem nx_F_java_lang_Object : Cond.castable "KeyedFolds$Fold" "java/lang/Object" ∈ jx_nb := jx_nbm 946 (by decide +kernel) rfl
theorem nx_R_java_lang_Object : Cond.castable "KeyedFolds$KeyRows" "java/lang/Object" ∈ jx_nb := jx_nbm 947 (by decide +kernel) rfl
end
section
/-! PART 09: small rows -/
theorem jx_rmc {d mc ms k : Nat} (h : k ≤ mc) : k ≤ (jx_rm d mc ms).cells := h
theorem jx_rms {d mc ms k : Nat} (h : k ≤ ms) : k ≤ (jx_rm d mc ms).slots := h
theorem jx_rml {d mc ms k : Nat} (h : k + 12 ≤ 100) : k + 12 ≤ (jx_rm d mc ms).locals := Nat.le_trans h (Nat.le_add_left _ _)
theorem nz_F : ∀ j, j < 5 → defaultValue (nt_F j) = vp_V [.int 0, .long 0, .long 0, .int 0, .null] j := by decide
theorem nz_R : ∀ j, j < 7 → defaultValue (nt_R j) = vp_V [.long 0, .null, .null, .null, .int 0, .int 0, .null] j := by decide
theorem nz_S : ∀ j, j < 2 → defaultValue (nt_S j) = vp_V [.null, .int 0] j := by decide
theorem nz_T : ∀ j, j < 4 → defaultValue (nt_T j) = vp_V [.int 0, .int 0, .int 0, .null] j := by decide
theorem nz_A : ∀ j, j < 3 → defaultValue (nt_A j) = vp_V [.int 0, .null, .int 0] j := by decide
theorem nz_K : ∀ j, j < 18 → defaultValue (nt_K j) = vp_V [.int 0, .int 0, .int 0, .int 0, .null, .null, .null, .null, .null, .int 0, .int 0, .long 0, .long 0, .int 0, .int 0, .int 0, .int 0, .int 0] j := by decide
end
section
/-! PART 10: pure words, cells, the class Fold -/
def sp_ex (P : Nat → Bool) : Nat → Bool
  | 0 => false
  | n + 1 => sp_ex P n || P n
theorem sp_ex_at {P : Nat → Bool} {i n : Nat} (h : P i = true) (hi : i < n) : sp_ex P n = true := by
  induction n with
  | zero => omega
  | succ n ih =>
    by_cases hn : i = n
    · subst hn
      simp [sp_ex, h]
    · simp [sp_ex, ih (by omega)]
/-- the least place at which P holds -/
def sp_ix (P : Nat → Bool) : Nat → Option Nat
  | 0 => none
  | n + 1 => match sp_ix P n with
    | some i => some i
    | none => if P n then some n else none
theorem sp_ix_at {P : Nat → Bool} {i n : Nat} (h0 : sp_ix P i = none) (h : P i = true) (hi : i < n) : sp_ix P n = some i := by
  induction n with
  | zero => omega
  | succ n ih =>
    by_cases hn : i = n
    · subst hn
      simp [sp_ix, h0, h]
    · simp [sp_ix, ih (by omega)]
theorem sp_ix_lt {P : Nat → Bool} {i n : Nat} (h : sp_ix P n = some i) : i < n ∧ P i = true := by
  induction n with
  | zero => simp [sp_ix] at h
  | succ n ih =>
    unfold sp_ix at h
    split at h
    · rename_i j hj
      cases h
      have := ih hj
      exact ⟨by omega, this.2⟩
    · split at h
      · cases h
        exact ⟨by omega, by assumption⟩
      · cases h
theorem sp_ix_no {P : Nat → Bool} {n : Nat} (h : sp_ix P n = none) : ∀ i, i < n → P i = false := by
  induction n with
  | zero => intro i hi; omega
  | succ n ih =>
    unfold sp_ix at h
    split at h
    · cases h
    · rename_i hn
      split at h
      · cases h
      · rename_i hP
        intro i hi
        by_cases e : i = n
        · subst e
          simpa using hP
        · exact ih hn i (by omega)
abbrev kf_la (n : Nat) (f : Nat → Int64) : jx_E := .inr (51, n, .inr (.inl f))
abbrev kf_ia (n : Nat) (f : Nat → Int32) : jx_E := .inr (50, n, .inl f)
abbrev kf_oa (n : Nat) (f : Nat → Option Nat) : jx_E := .inr (52, n, .inr (.inr (.inr (.inr f))))
/-- a Fold: kind, start, p, how many values it fails at, their array -/
abbrev kf_F (kd : Int32) (s p : Int64) (n : Nat) (fa : Nat) : jx_E := .inl (0, [.int kd, .long s, .long p, .int (nI n), .ref fa])
/-- 1 or 0 -/
def kf_b (b : Bool) : Int32 := if b then 1 else 0
theorem kf_b01 (b : Bool) : kf_b b = 0 ∨ kf_b b = 1 := by cases b <;> simp [kf_b]
def sp_tb (kd : Int32) : Bool := kd == 0 || kd == 6 || kd == 7
def sp_mj (kd : Int32) : Bool := kd == 1 || kd == 2 || sp_tb kd
section CF
variable {G : jx_G} {d a fa sz n : Nat} {kd : Int32} {s p v : Int64} {w : Nat → Int64} {M : jx_H} {Z : Option Value → jx_H → Nat → Prop}
theorem c_F_canBeTakenBack (h : M a = some (kf_F kd s p n fa)) (k : Z (some (.int (kf_b (sp_tb kd)))) M sz) : jx_Cr md_F_canBeTakenBack G d [.ref a] M sz 0 0 Z := by
  refine jx_ent rfl (Nat.le_of_ble_eq_true rfl) (l := [some (.ref a)]) (by simp [jx_le, jx_eas, Value.category]) (fun hlt => ?_)
  refine jx_aload_n (i := 0) d_F_canBeTakenBack_0 rfl rfl ?_
  refine jx_getf d_F_canBeTakenBack_1 gf_F_19 h rfl ?_
  refine jx_if_eq (tgt := 25) d_F_canBeTakenBack_4 (by decide) (fun c4 => ?_) (fun c4 => ?_)
  · refine jx_iconst (v := 1) d_F_canBeTakenBack_25 (by decide) ?_
    refine jx_goto (tgt := 30) d_F_canBeTakenBack_26 (by decide) ?_
    exact jx_zret d_F_canBeTakenBack_30 rfl (by first | exact Or.inl rfl | exact Or.inr rfl) (by omega) (by omega) (by simpa [sp_tb, kf_b, c4] using k)
  · refine jx_aload_n (i := 0) d_F_canBeTakenBack_7 rfl rfl ?_
    refine jx_getf d_F_canBeTakenBack_8 gf_F_19 h rfl ?_
    refine jx_bipush (v := 6) d_F_canBeTakenBack_11 (by decide) ?_
    refine jx_icmp_eq (tgt := 25) d_F_canBeTakenBack_13 (by decide) (fun c13 => ?_) (fun c13 => ?_)
    · refine jx_iconst (v := 1) d_F_canBeTakenBack_25 (by decide) ?_
      refine jx_goto (tgt := 30) d_F_canBeTakenBack_26 (by decide) ?_
      exact jx_zret d_F_canBeTakenBack_30 rfl (by first | exact Or.inl rfl | exact Or.inr rfl) (by omega) (by omega) (by simpa [sp_tb, kf_b, c13] using k)
    · refine jx_aload_n (i := 0) d_F_canBeTakenBack_16 rfl rfl ?_
      refine jx_getf d_F_canBeTakenBack_17 gf_F_19 h rfl ?_
      refine jx_bipush (v := 7) d_F_canBeTakenBack_20 (by decide) ?_
      refine jx_icmp_ne (tgt := 29) d_F_canBeTakenBack_22 (by decide) (fun c22 => ?_) (fun c22 => ?_)
      · refine jx_iconst (v := 0) d_F_canBeTakenBack_29 (by decide) ?_
        exact jx_zret d_F_canBeTakenBack_30 rfl (by first | exact Or.inl rfl | exact Or.inr rfl) (by omega) (by omega) (by simpa [sp_tb, kf_b, c4, c13, c22] using k)
      · refine jx_iconst (v := 1) d_F_canBeTakenBack_25 (by decide) ?_
        refine jx_goto (tgt := 30) d_F_canBeTakenBack_26 (by decide) ?_
        exact jx_zret d_F_canBeTakenBack_30 rfl (by first | exact Or.inl rfl | exact Or.inr rfl) (by omega) (by omega) (by simpa [sp_tb, kf_b, c4, c13, c22] using k)
theorem c_F_mayBeJoined (hd : 0 < d) (h : M a = some (kf_F kd s p n fa)) (k : Z (some (.int (kf_b (sp_mj kd)))) M sz) : jx_Cr md_F_mayBeJoined G d [.ref a] M sz 0 0 Z := by
  refine jx_ent rfl (Nat.le_of_ble_eq_true rfl) (l := [some (.ref a)]) (by simp [jx_le, jx_eas, Value.category]) (fun hlt => ?_)
  refine jx_aload_n (i := 0) d_F_mayBeJoined_0 rfl rfl ?_
  refine jx_getf d_F_mayBeJoined_1 gf_F_19 h rfl ?_
  refine jx_iconst (v := 1) d_F_mayBeJoined_4 (by decide) ?_
  refine jx_icmp_eq (tgt := 23) d_F_mayBeJoined_5 (by decide) (fun c5 => ?_) (fun c5 => ?_)
  · refine jx_iconst (v := 1) d_F_mayBeJoined_23 (by decide) ?_
    refine jx_goto (tgt := 28) d_F_mayBeJoined_24 (by decide) ?_
    exact jx_zret d_F_mayBeJoined_28 rfl (by first | exact Or.inl rfl | exact Or.inr rfl) (by omega) (by omega) (by simpa [sp_mj, kf_b, c5] using k)
  · refine jx_aload_n (i := 0) d_F_mayBeJoined_8 rfl rfl ?_
    refine jx_getf d_F_mayBeJoined_9 gf_F_19 h rfl ?_
    refine jx_iconst (v := 2) d_F_mayBeJoined_12 (by decide) ?_
    refine jx_icmp_eq (tgt := 23) d_F_mayBeJoined_13 (by decide) (fun c13 => ?_) (fun c13 => ?_)
    · refine jx_iconst (v := 1) d_F_mayBeJoined_23 (by decide) ?_
      refine jx_goto (tgt := 28) d_F_mayBeJoined_24 (by decide) ?_
      exact jx_zret d_F_mayBeJoined_28 rfl (by first | exact Or.inl rfl | exact Or.inr rfl) (by omega) (by omega) (by simpa [sp_mj, kf_b, c13] using k)
    · refine jx_aload_n (i := 0) d_F_mayBeJoined_16 rfl rfl ?_
      refine jx_callV0 d_F_mayBeJoined_17 mv_F_29 h rfl (jx_ok_rm (by omega) (Nat.le_of_ble_eq_true rfl)) (Nat.le_of_ble_eq_true rfl) (by omega) (by omega) (c_F_canBeTakenBack (d := 0) h ?_)
      dsimp only [Option.toList, List.cons_append, List.nil_append]
      refine jx_if_eq (tgt := 27) d_F_mayBeJoined_20 (by decide) (fun c20 => ?_) (fun c20 => ?_)
      · refine jx_iconst (v := 0) d_F_mayBeJoined_27 (by decide) ?_
        exact jx_zret d_F_mayBeJoined_28 rfl (by first | exact Or.inl rfl | exact Or.inr rfl) (by omega) (by omega) (by
          have e : sp_tb kd = false := by cases hq : sp_tb kd <;> simp_all [kf_b]
          simpa [sp_mj, kf_b, c5, c13, e] using k)
      · refine jx_iconst (v := 1) d_F_mayBeJoined_23 (by decide) ?_
        refine jx_goto (tgt := 28) d_F_mayBeJoined_24 (by decide) ?_
        exact jx_zret d_F_mayBeJoined_28 rfl (by first | exact Or.inl rfl | exact Or.inr rfl) (by omega) (by omega) (by
          have e : sp_tb kd = true := by cases hq : sp_tb kd <;> simp_all [kf_b]
          simpa [sp_mj, kf_b, c5, c13, e] using k)
theorem c_F_isFailing (hn : n ≤ 4) (h : M a = some (kf_F kd s p n fa)) (hf : M fa = some (kf_la 4 w)) (k : Z (some (.int (kf_b (sp_ex (fun j => w j == v) n)))) M sz) : jx_Cr md_F_isFailing G d [.ref a, .long v] M sz 0 0 Z := by
  refine jx_ent rfl (Nat.le_of_ble_eq_true rfl) (l := [some (.ref a), some (.long v), none, none]) (by simp [jx_le, jx_eas, Value.category]) (fun hlt => ?_)
  have loop : ∀ (j i : Nat), i + j = n → sp_ex (fun j => w j == v) i = false → jx_V md_F_isFailing [] G (jx_rm d 0 0) (jx_Q1 G 0 0 Z) 2 [some (.ref a), some (.long v), none, some (.int (nI i))] [] M sz 0 0 := by
    intro j
    induction j with
    | zero =>
      intro i hi hP
      refine jx_iload_n (i := 3) d_F_isFailing_2 rfl rfl ?_
      refine jx_aload_n (i := 0) d_F_isFailing_3 rfl rfl ?_
      refine jx_getf d_F_isFailing_4 gf_F_9 h rfl ?_
      refine jx_icmp_ge (tgt := 29) d_F_isFailing_7 (by decide) (fun c7 => ?_) (fun c7 => ?_)
      · refine jx_iconst (v := 0) d_F_isFailing_29 (by decide) ?_
        exact jx_zret d_F_isFailing_30 rfl (by first | exact Or.inl rfl | exact Or.inr rfl) (by omega) (by omega) (by rw [show n = i by omega, hP] at k; exact k)
      · exact absurd ((nI_leI (by omega) (by omega)).mpr (by omega)) c7
    | succ j ih =>
      intro i hi hP
      refine jx_iload_n (i := 3) d_F_isFailing_2 rfl rfl ?_
      refine jx_aload_n (i := 0) d_F_isFailing_3 rfl rfl ?_
      refine jx_getf d_F_isFailing_4 gf_F_9 h rfl ?_
      refine jx_icmp_ge (tgt := 29) d_F_isFailing_7 (by decide) (fun c7 => ?_) (fun c7 => ?_)
      · exact absurd ((nI_leI (by omega) (by omega)).mp c7) (by omega)
      · refine jx_aload_n (i := 0) d_F_isFailing_10 rfl rfl ?_
        refine jx_getf d_F_isFailing_11 gf_F_15 h rfl ?_
        refine jx_iload_n (i := 3) d_F_isFailing_14 rfl rfl ?_
        refine jx_lald (t0 := 1) d_F_isFailing_15 hf rfl (vp_in_nI (by omega) (by omega)) ?_
        refine jx_lload_n (i := 1) d_F_isFailing_16 rfl rfl ?_
        refine jx_l_ne (tgt := 23) d_F_isFailing_17 d_F_isFailing_18 (by decide) (fun c17 => ?_) (fun c17 => ?_)
        · refine jx_iinc d_F_isFailing_23 rfl (Nat.le_of_ble_eq_true rfl) (jx_e4_3 (by trivial)) ?_
          refine jx_goto (tgt := 2) d_F_isFailing_26 (by decide) ?_
          rw [nI_1]
          refine ih (i + 1) (by omega) ?_
          rw [nI_clamp (by omega)] at c17
          simp [sp_ex, hP, c17]
        · refine jx_iconst (v := 1) d_F_isFailing_21 (by decide) ?_
          exact jx_zret d_F_isFailing_22 rfl (by first | exact Or.inl rfl | exact Or.inr rfl) (by omega) (by omega) (by
            rw [nI_clamp (by omega)] at c17
            rw [sp_ex_at (i := i) (by simp [c17]) (by omega)] at k
            exact k)
  refine jx_iconst (v := 0) d_F_isFailing_0 (by decide) ?_
  refine jx_istore_n (i := 3) d_F_isFailing_1 rfl (Nat.le_of_ble_eq_true rfl) (jx_e4_3 (by trivial)) ?_
  exact loop n 0 (by omega) rfl
end CF
end
section
/-! PART 11: the class Fold, the rest -/
/-- a step -/
def sp_st (kn : Nat) (p s v gp : Int64) (b : Bool) : Int64 := match kn with
  | 0 => s + v
  | 1 => if v ≤ s then s else v
  | 2 => if s ≤ v then s else v
  | 3 => v
  | 4 => if b then v else s
  | 5 => s * p + v
  | 6 => s + 1
  | 7 => s ^^^ (v * p)
  | _ => if gp ≤ s then s else gp
/-- a step taken back -/
def sp_bk (kn : Nat) (p s v : Int64) : Int64 := match kn with
  | 0 => s - v
  | 6 => s - 1
  | 7 => s ^^^ (v * p)
  | _ => s
theorem l_nlt {x z : Int64} (h : ¬ x < z) : z ≤ x := by
  rw [Int64.lt_iff_toInt_lt] at h
  rw [Int64.le_iff_toInt_le]
  omega
theorem l_nle {x z : Int64} (h : x < z) : ¬ z ≤ x := by
  rw [Int64.lt_iff_toInt_lt] at h
  rw [Int64.le_iff_toInt_le]
  omega
section CF2
variable {G : jx_G} {d a fa sz n kn : Nat} {kd : Int32} {s0 s p v gp : Int64} {b : Bool} {w : Nat → Int64} {M : jx_H} {Z : Option Value → jx_H → Nat → Prop}
theorem c_F_step (hk : kn ≤ 8) (h : M a = some (kf_F (nI kn) s0 p n fa)) (k : Z (some (.long (sp_st kn p s v gp b))) M sz) : jx_Cr md_F_step G d [.ref a, .long s, .long v, .long gp, .int (kf_b b)] M sz 0 0 Z := by
  refine jx_ent rfl (Nat.le_of_ble_eq_true rfl) (l := [some (.ref a), some (.long s), none, some (.long v), none, some (.long gp), none, some (.int (kf_b b))]) (by simp [jx_le, jx_eas, Value.category]) (fun hlt => ?_)
  refine jx_aload_n (i := 0) d_F_step_0 rfl rfl ?_
  refine jx_getf d_F_step_1 gf_F_19 h rfl ?_
  rcases (show kn = 0 ∨ kn = 1 ∨ kn = 2 ∨ kn = 3 ∨ kn = 4 ∨ kn = 5 ∨ kn = 6 ∨ kn = 7 ∨ kn = 8 by omega) with rfl | rfl | rfl | rfl | rfl | rfl | rfl | rfl | rfl
  · refine jx_tableIn (tgt := 52) d_F_step_4 (by decide) (by decide) rfl (by decide) ?_
    refine jx_lload_n (i := 1) d_F_step_52 rfl rfl ?_
    refine jx_lload_n (i := 3) d_F_step_53 rfl rfl ?_
    refine jx_ladd d_F_step_54 ?_
    exact jx_lret d_F_step_55 rfl (by omega) (by omega) k
  · refine jx_tableIn (tgt := 56) d_F_step_4 (by decide) (by decide) rfl (by decide) ?_
    refine jx_lload_n (i := 1) d_F_step_56 rfl rfl ?_
    refine jx_lload_n (i := 3) d_F_step_57 rfl rfl ?_
    refine jx_l_lt (tgt := 66) d_F_step_58 d_F_step_59 (by decide) (fun c58 => ?_) (fun c58 => ?_)
    · refine jx_lload_n (i := 3) d_F_step_66 rfl rfl ?_
      exact jx_lret d_F_step_67 rfl (by omega) (by omega) (by simpa [sp_st, l_nle c58] using k)
    · refine jx_lload_n (i := 1) d_F_step_62 rfl rfl ?_
      refine jx_goto (tgt := 67) d_F_step_63 (by decide) ?_
      exact jx_lret d_F_step_67 rfl (by omega) (by omega) (by simpa [sp_st, l_nlt c58] using k)
  · refine jx_tableIn (tgt := 68) d_F_step_4 (by decide) (by decide) rfl (by decide) ?_
    refine jx_lload_n (i := 1) d_F_step_68 rfl rfl ?_
    refine jx_lload_n (i := 3) d_F_step_69 rfl rfl ?_
    refine jx_l_gt (tgt := 78) d_F_step_70 d_F_step_71 (by decide) (fun c70 => ?_) (fun c70 => ?_)
    · refine jx_lload_n (i := 3) d_F_step_78 rfl rfl ?_
      exact jx_lret d_F_step_79 rfl (by omega) (by omega) (by simpa [sp_st, l_nle c70] using k)
    · refine jx_lload_n (i := 1) d_F_step_74 rfl rfl ?_
      refine jx_goto (tgt := 79) d_F_step_75 (by decide) ?_
      exact jx_lret d_F_step_79 rfl (by omega) (by omega) (by simpa [sp_st, l_nlt c70] using k)
  · refine jx_tableIn (tgt := 80) d_F_step_4 (by decide) (by decide) rfl (by decide) ?_
    refine jx_lload_n (i := 3) d_F_step_80 rfl rfl ?_
    exact jx_lret d_F_step_81 rfl (by omega) (by omega) k
  · refine jx_tableIn (tgt := 82) d_F_step_4 (by decide) (by decide) rfl (by decide) ?_
    refine jx_iload d_F_step_82 rfl ?_
    refine jx_if_eq (tgt := 91) d_F_step_84 (by decide) (fun c84 => ?_) (fun c84 => ?_)
    · refine jx_lload_n (i := 1) d_F_step_91 rfl rfl ?_
      exact jx_lret d_F_step_92 rfl (by omega) (by omega) (by cases b <;> simp_all [sp_st, kf_b])
    · refine jx_lload_n (i := 3) d_F_step_87 rfl rfl ?_
      refine jx_goto (tgt := 92) d_F_step_88 (by decide) ?_
      exact jx_lret d_F_step_92 rfl (by omega) (by omega) (by cases b <;> simp_all [sp_st, kf_b])
  · refine jx_tableIn (tgt := 93) d_F_step_4 (by decide) (by decide) rfl (by decide) ?_
    refine jx_lload_n (i := 1) d_F_step_93 rfl rfl ?_
    refine jx_aload_n (i := 0) d_F_step_94 rfl rfl ?_
    refine jx_getf d_F_step_95 gf_F_26 h rfl ?_
    refine jx_lmul d_F_step_98 ?_
    refine jx_lload_n (i := 3) d_F_step_99 rfl rfl ?_
    refine jx_ladd d_F_step_100 ?_
    exact jx_lret d_F_step_101 rfl (by omega) (by omega) k
  · refine jx_tableIn (tgt := 102) d_F_step_4 (by decide) (by decide) rfl (by decide) ?_
    refine jx_lload_n (i := 1) d_F_step_102 rfl rfl ?_
    refine jx_lconst (v := 1) d_F_step_103 (by decide) ?_
    refine jx_ladd d_F_step_104 ?_
    exact jx_lret d_F_step_105 rfl (by omega) (by omega) k
  · refine jx_tableIn (tgt := 106) d_F_step_4 (by decide) (by decide) rfl (by decide) ?_
    refine jx_lload_n (i := 1) d_F_step_106 rfl rfl ?_
    refine jx_lload_n (i := 3) d_F_step_107 rfl rfl ?_
    refine jx_aload_n (i := 0) d_F_step_108 rfl rfl ?_
    refine jx_getf d_F_step_109 gf_F_26 h rfl ?_
    refine jx_lmul d_F_step_112 ?_
    refine jx_lxor d_F_step_113 ?_
    exact jx_lret d_F_step_114 rfl (by omega) (by omega) k
  · refine jx_tableOut (tgt := 115) d_F_step_4 (by decide) (by decide) ?_
    refine jx_lload_n (i := 1) d_F_step_115 rfl rfl ?_
    refine jx_lload d_F_step_116 rfl ?_
    refine jx_l_lt (tgt := 126) d_F_step_118 d_F_step_119 (by decide) (fun c118 => ?_) (fun c118 => ?_)
    · refine jx_lload d_F_step_126 rfl ?_
      exact jx_lret d_F_step_128 rfl (by omega) (by omega) (by simpa [sp_st, l_nle c118] using k)
    · refine jx_lload_n (i := 1) d_F_step_122 rfl rfl ?_
      refine jx_goto (tgt := 128) d_F_step_123 (by decide) ?_
      exact jx_lret d_F_step_128 rfl (by omega) (by omega) (by simpa [sp_st, l_nlt c118] using k)
theorem c_F_stepTakenBack (hk : kn ≤ 8) (h : M a = some (kf_F (nI kn) s0 p n fa)) (k : Z (some (.long (sp_bk kn p s v))) M sz) : jx_Cr md_F_stepTakenBack G d [.ref a, .long s, .long v] M sz 0 0 Z := by
  refine jx_ent rfl (Nat.le_of_ble_eq_true rfl) (l := [some (.ref a), some (.long s), none, some (.long v), none]) (by simp [jx_le, jx_eas, Value.category]) (fun hlt => ?_)
  refine jx_aload_n (i := 0) d_F_stepTakenBack_0 rfl rfl ?_
  refine jx_getf d_F_stepTakenBack_1 gf_F_19 h rfl ?_
  rcases (show kn = 0 ∨ kn = 1 ∨ kn = 2 ∨ kn = 3 ∨ kn = 4 ∨ kn = 5 ∨ kn = 6 ∨ kn = 7 ∨ kn = 8 by omega) with rfl | rfl | rfl | rfl | rfl | rfl | rfl | rfl | rfl
  · refine jx_lookup (tgt := 40) d_F_stepTakenBack_4 (by decide) rfl (by decide) ?_
    refine jx_lload_n (i := 1) d_F_stepTakenBack_40 rfl rfl ?_
    refine jx_lload_n (i := 3) d_F_stepTakenBack_41 rfl rfl ?_
    refine jx_lsub d_F_stepTakenBack_42 ?_
    exact jx_lret d_F_stepTakenBack_43 rfl (by omega) (by omega) k
  · refine jx_lookup (tgt := 57) d_F_stepTakenBack_4 (by decide) rfl (by decide) ?_
    refine jx_lload_n (i := 1) d_F_stepTakenBack_57 rfl rfl ?_
    exact jx_lret d_F_stepTakenBack_58 rfl (by omega) (by omega) k
  · refine jx_lookup (tgt := 57) d_F_stepTakenBack_4 (by decide) rfl (by decide) ?_
    refine jx_lload_n (i := 1) d_F_stepTakenBack_57 rfl rfl ?_
    exact jx_lret d_F_stepTakenBack_58 rfl (by omega) (by omega) k
  · refine jx_lookup (tgt := 57) d_F_stepTakenBack_4 (by decide) rfl (by decide) ?_
    refine jx_lload_n (i := 1) d_F_stepTakenBack_57 rfl rfl ?_
    exact jx_lret d_F_stepTakenBack_58 rfl (by omega) (by omega) k
  · refine jx_lookup (tgt := 57) d_F_stepTakenBack_4 (by decide) rfl (by decide) ?_
    refine jx_lload_n (i := 1) d_F_stepTakenBack_57 rfl rfl ?_
    exact jx_lret d_F_stepTakenBack_58 rfl (by omega) (by omega) k
  · refine jx_lookup (tgt := 57) d_F_stepTakenBack_4 (by decide) rfl (by decide) ?_
    refine jx_lload_n (i := 1) d_F_stepTakenBack_57 rfl rfl ?_
    exact jx_lret d_F_stepTakenBack_58 rfl (by omega) (by omega) k
  · refine jx_lookup (tgt := 44) d_F_stepTakenBack_4 (by decide) rfl (by decide) ?_
    refine jx_lload_n (i := 1) d_F_stepTakenBack_44 rfl rfl ?_
    refine jx_lconst (v := 1) d_F_stepTakenBack_45 (by decide) ?_
    refine jx_lsub d_F_stepTakenBack_46 ?_
    exact jx_lret d_F_stepTakenBack_47 rfl (by omega) (by omega) k
  · refine jx_lookup (tgt := 48) d_F_stepTakenBack_4 (by decide) rfl (by decide) ?_
    refine jx_lload_n (i := 1) d_F_stepTakenBack_48 rfl rfl ?_
    refine jx_lload_n (i := 3) d_F_stepTakenBack_49 rfl rfl ?_
    refine jx_aload_n (i := 0) d_F_stepTakenBack_50 rfl rfl ?_
    refine jx_getf d_F_stepTakenBack_51 gf_F_26 h rfl ?_
    refine jx_lmul d_F_stepTakenBack_54 ?_
    refine jx_lxor d_F_stepTakenBack_55 ?_
    exact jx_lret d_F_stepTakenBack_56 rfl (by omega) (by omega) k
  · refine jx_lookup (tgt := 57) d_F_stepTakenBack_4 (by decide) rfl (by decide) ?_
    refine jx_lload_n (i := 1) d_F_stepTakenBack_57 rfl rfl ?_
    exact jx_lret d_F_stepTakenBack_58 rfl (by omega) (by omega) k
theorem c_F_addFailing (hn : n < 4) (h : M a = some (kf_F kd s p n fa)) (hf : M fa = some (kf_la 4 w)) (hne : a ≠ fa) (k : Z none (jx_up (jx_up M fa (kf_la 4 (vp_updL w n v))) a (kf_F kd s p (n + 1) fa)) sz) : jx_Cr md_F_addFailing G d [.ref a, .long v] M sz 0 0 Z := by
  refine jx_ent rfl (Nat.le_of_ble_eq_true rfl) (l := [some (.ref a), some (.long v), none]) (by simp [jx_le, jx_eas, Value.category]) (fun hlt => ?_)
  refine jx_aload_n (i := 0) d_F_addFailing_0 rfl rfl ?_
  refine jx_getf d_F_addFailing_1 gf_F_9 h rfl ?_
  refine jx_iconst (v := 4) d_F_addFailing_4 (by decide) ?_
  refine jx_icmp_ge (tgt := 28) d_F_addFailing_5 (by decide) (fun c5 => ?_) (fun c5 => ?_)
  · exact absurd c5 (fun q => by have := (nI_leI (a := 4) (by omega) (by omega)).mp q; omega)
  · refine jx_aload_n (i := 0) d_F_addFailing_8 rfl rfl ?_
    refine jx_getf d_F_addFailing_9 gf_F_15 h rfl ?_
    refine jx_aload_n (i := 0) d_F_addFailing_12 rfl rfl ?_
    refine jx_getf d_F_addFailing_13 gf_F_9 h rfl ?_
    refine jx_lload_n (i := 1) d_F_addFailing_16 rfl rfl ?_
    refine jx_last (t0 := 1) d_F_addFailing_17 hf rfl (vp_in_nI (by omega) (by omega)) ?_
    rw [nI_clamp (by omega)]
    refine jx_aload_n (i := 0) d_F_addFailing_18 rfl rfl ?_
    refine jx_dup d_F_addFailing_19 rfl ?_
    refine jx_getf d_F_addFailing_20 gf_F_9 (by rw [jx_up_n _ _ hne]; exact h) rfl ?_
    refine jx_iconst (v := 1) d_F_addFailing_23 (by decide) ?_
    refine jx_iadd d_F_addFailing_24 ?_
    refine jx_putf d_F_addFailing_25 pf_F_9 (by rw [jx_up_n _ _ hne]; exact h) (Nat.le_of_ble_eq_true rfl) rfl rfl ?_
    exact jx_vret d_F_addFailing_28 rfl (by omega) (by omega) (by rw [nI_1]; exact k)
theorem c_F_init (h : M a = some (.inl (0, [.int 0, .long 0, .long 0, .int 0, .null]))) (k : Z none (jx_up (jx_up M sz (kf_la 4 (fun _ => 0))) a (kf_F kd s p 0 sz)) (sz + 1)) : jx_Cr md_F_init G d [.ref a, .int kd, .long s, .long p] M sz 1 4 Z := by
  refine jx_ent rfl (Nat.le_of_ble_eq_true rfl) (l := [some (.ref a), some (.int kd), some (.long s), none, some (.long p), none]) (by simp [jx_le, jx_eas, Value.category]) (fun hlt => ?_)
  have hne : a ≠ sz := Nat.ne_of_lt (hlt a _ h)
  refine jx_aload_n (i := 0) d_F_init_0 rfl rfl ?_
  refine jx_objInit d_F_init_1 mo_F_3 (Nat.succ_le_succ (Nat.zero_le _)) (jx_rml (Nat.le_of_ble_eq_true rfl)) ?_
  refine jx_aload_n (i := 0) d_F_init_4 rfl rfl ?_
  refine jx_iconst (v := 0) d_F_init_5 (by decide) ?_
  refine jx_putf d_F_init_6 pf_F_9 h (Nat.le_of_ble_eq_true rfl) rfl rfl ?_
  refine jx_aload_n (i := 0) d_F_init_9 rfl rfl ?_
  refine jx_iconst (v := 4) d_F_init_10 (by decide) ?_
  refine jx_newa (N := 4) (ak := 51) (t0 := 1) (a0 := (4, .inr (.inl fun _ => 0))) d_F_init_11 rfl na_long rfl (fun _ => rfl) (by decide) (by decide) (by decide) (jx_rmc (by omega)) (jx_rms (by omega)) (fun hno => ?_)
  refine jx_putf d_F_init_13 pf_F_15 ((jx_up_n _ _ hne).trans (jx_up_s _ _ _)) (Nat.le_of_ble_eq_true rfl) rfl rfl ?_
  refine jx_aload_n (i := 0) d_F_init_16 rfl rfl ?_
  refine jx_iload_n (i := 1) d_F_init_17 rfl rfl ?_
  refine jx_putf d_F_init_18 pf_F_19 (jx_up_s _ _ _) (Nat.le_of_ble_eq_true rfl) rfl rfl ?_
  refine jx_aload_n (i := 0) d_F_init_21 rfl rfl ?_
  refine jx_lload_n (i := 2) d_F_init_22 rfl rfl ?_
  refine jx_putf d_F_init_23 pf_F_22 (jx_up_s _ _ _) (Nat.le_of_ble_eq_true rfl) rfl rfl ?_
  refine jx_aload_n (i := 0) d_F_init_26 rfl rfl ?_
  refine jx_lload d_F_init_27 rfl ?_
  refine jx_putf d_F_init_29 pf_F_26 (jx_up_s _ _ _) (Nat.le_of_ble_eq_true rfl) rfl rfl ?_
  exact jx_vret d_F_init_32 rfl (by omega) (by omega) (by rw [jx_up_c _ _ _ hne]; simp only [jx_up_u]; exact k)
end CF2
end
section
/-! PART 12: StoppedKeys and Table -/
/-- StoppedKeys: the names' array, how many -/
abbrev kf_S (na n : Nat) : jx_E := .inl (2, [.ref na, .int (nI n)])
/-- a Table: how many were counted, limit, width, its cells -/
abbrev kf_T (c li wi ca : Nat) : jx_E := .inl (3, [.int (nI c), .int (nI li), .int (nI wi), .ref ca])
def kf_ix (r : Option Nat) : Int32 := match r with
  | some i => nI i
  | none => -1
theorem kf_ix_m1 {r : Option Nat} {n : Nat} (hr : ∀ i, r = some i → i < n) (hn : n < 2 ^ 31) : kf_ix r = -1 ↔ r = none := by
  cases r with
  | none => simp [kf_ix]
  | some i =>
    have := hr i rfl
    simp only [kf_ix, reduceCtorEq, iff_false]
    intro h
    have h2 := congrArg Int32.toInt h
    rw [nI_toInt (by omega)] at h2
    have : (-1 : Int32).toInt = -1 := by decide
    omega
section CS
variable {G : jx_G} {d a na sz n : Nat} {v : Int64} {w : Nat → Int64} {M : jx_H} {Z : Option Value → jx_H → Nat → Prop}
theorem c_S_init (h : M a = some (.inl (2, [.null, .int 0]))) (k : Z none (jx_up (jx_up M sz (kf_la 512 (fun _ => 0))) a (kf_S sz 0)) (sz + 1)) : jx_Cr md_S_init G d [.ref a] M sz 1 512 Z := by
  refine jx_ent rfl (Nat.le_of_ble_eq_true rfl) (l := [some (.ref a)]) (by simp [jx_le, jx_eas, Value.category]) (fun hlt => ?_)
  have hne : a ≠ sz := Nat.ne_of_lt (hlt a _ h)
  refine jx_aload_n (i := 0) d_S_init_0 rfl rfl ?_
  refine jx_objInit d_S_init_1 mo_S_3 (Nat.succ_le_succ (Nat.zero_le _)) (jx_rml (Nat.le_of_ble_eq_true rfl)) ?_
  refine jx_aload_n (i := 0) d_S_init_4 rfl rfl ?_
  refine jx_sipush (v := 512) d_S_init_5 (by decide) ?_
  refine jx_newa (N := 512) (ak := 51) (t0 := 1) (a0 := (512, .inr (.inl fun _ => 0))) d_S_init_8 rfl na_long rfl (fun _ => rfl) (by decide) (by decide) (by decide) (jx_rmc (by omega)) (jx_rms (by omega)) (fun hno => ?_)
  refine jx_putf d_S_init_10 pf_S_9 ((jx_up_n _ _ hne).trans h) (Nat.le_of_ble_eq_true rfl) rfl rfl ?_
  refine jx_aload_n (i := 0) d_S_init_13 rfl rfl ?_
  refine jx_iconst (v := 0) d_S_init_14 (by decide) ?_
  refine jx_putf d_S_init_15 pf_S_15 (jx_up_s _ _ _) (Nat.le_of_ble_eq_true rfl) rfl rfl ?_
  exact jx_vret d_S_init_18 rfl (by omega) (by omega) (by simp only [jx_up_u]; exact k)
theorem c_S_placeOf (hn : n ≤ 512) (h : M a = some (kf_S na n)) (hf : M na = some (kf_la 512 w)) (k : Z (some (.int (kf_ix (sp_ix (fun j => w j == v) n)))) M sz) : jx_Cr md_S_placeOf G d [.ref a, .long v] M sz 0 0 Z := by
  refine jx_ent rfl (Nat.le_of_ble_eq_true rfl) (l := [some (.ref a), some (.long v), none, none]) (by simp [jx_le, jx_eas, Value.category]) (fun hlt => ?_)
  have loop : ∀ (j i : Nat), i + j = n → sp_ix (fun j => w j == v) i = none → jx_V md_S_placeOf [] G (jx_rm d 0 0) (jx_Q1 G 0 0 Z) 2 [some (.ref a), some (.long v), none, some (.int (nI i))] [] M sz 0 0 := by
    intro j
    induction j with
    | zero =>
      intro i hi hP
      refine jx_iload_n (i := 3) d_S_placeOf_2 rfl rfl ?_
      refine jx_aload_n (i := 0) d_S_placeOf_3 rfl rfl ?_
      refine jx_getf d_S_placeOf_4 gf_S_15 h rfl ?_
      refine jx_icmp_ge (tgt := 29) d_S_placeOf_7 (by decide) (fun c7 => ?_) (fun c7 => ?_)
      · refine jx_iconst (v := (-1)) d_S_placeOf_29 (by decide) ?_
        exact jx_iret d_S_placeOf_30 rfl (by omega) (by omega) (by rw [show n = i by omega, hP] at k; exact k)
      · exact absurd ((nI_leI (by omega) (by omega)).mpr (by omega)) c7
    | succ j ih =>
      intro i hi hP
      refine jx_iload_n (i := 3) d_S_placeOf_2 rfl rfl ?_
      refine jx_aload_n (i := 0) d_S_placeOf_3 rfl rfl ?_
      refine jx_getf d_S_placeOf_4 gf_S_15 h rfl ?_
      refine jx_icmp_ge (tgt := 29) d_S_placeOf_7 (by decide) (fun c7 => ?_) (fun c7 => ?_)
      · exact absurd ((nI_leI (by omega) (by omega)).mp c7) (by omega)
      · refine jx_aload_n (i := 0) d_S_placeOf_10 rfl rfl ?_
        refine jx_getf d_S_placeOf_11 gf_S_9 h rfl ?_
        refine jx_iload_n (i := 3) d_S_placeOf_14 rfl rfl ?_
        refine jx_lald (t0 := 1) d_S_placeOf_15 hf rfl (vp_in_nI (by omega) (by omega)) ?_
        refine jx_lload_n (i := 1) d_S_placeOf_16 rfl rfl ?_
        refine jx_l_ne (tgt := 23) d_S_placeOf_17 d_S_placeOf_18 (by decide) (fun c17 => ?_) (fun c17 => ?_)
        · refine jx_iinc d_S_placeOf_23 rfl (Nat.le_of_ble_eq_true rfl) (jx_e4_3 (by trivial)) ?_
          refine jx_goto (tgt := 2) d_S_placeOf_26 (by decide) ?_
          rw [nI_1]
          refine ih (i + 1) (by omega) ?_
          rw [nI_clamp (by omega)] at c17
          simp [sp_ix, hP, c17]
        · refine jx_iload_n (i := 3) d_S_placeOf_21 rfl rfl ?_
          exact jx_iret d_S_placeOf_22 rfl (by omega) (by omega) (by
            rw [nI_clamp (by omega)] at c17
            rw [sp_ix_at (i := i) hP (by simp [c17]) (by omega)] at k
            exact k)
  refine jx_iconst (v := 0) d_S_placeOf_0 (by decide) ?_
  refine jx_istore_n (i := 3) d_S_placeOf_1 rfl (Nat.le_of_ble_eq_true rfl) (jx_e4_3 (by trivial)) ?_
  exact loop n 0 (by omega) rfl
theorem c_S_has (hd : 0 < d) (hn : n ≤ 512) (h : M a = some (kf_S na n)) (hf : M na = some (kf_la 512 w)) (k : Z (some (.int (kf_b (sp_ix (fun j => w j == v) n).isSome))) M sz) : jx_Cr md_S_has G d [.ref a, .long v] M sz 0 0 Z := by
  refine jx_ent rfl (Nat.le_of_ble_eq_true rfl) (l := [some (.ref a), some (.long v), none]) (by simp [jx_le, jx_eas, Value.category]) (fun hlt => ?_)
  refine jx_aload_n (i := 0) d_S_has_0 rfl rfl ?_
  refine jx_lload_n (i := 1) d_S_has_1 rfl rfl ?_
  refine jx_callV1 d_S_has_2 mv_S_19 h rfl (jx_ok_rm (by omega) (Nat.le_of_ble_eq_true rfl)) (Nat.le_of_ble_eq_true rfl) (jx_rmc (by omega)) (jx_rms (by omega)) (c_S_placeOf (d := 0) hn h hf ?_)
  dsimp only [Option.toList, List.cons_append, List.nil_append]
  have hm := kf_ix_m1 (r := sp_ix (fun j => w j == v) n) (fun i hi => (sp_ix_lt hi).1) (n := n) (by omega)
  refine jx_iconst (v := (-1)) d_S_has_5 (by decide) ?_
  refine jx_icmp_eq (tgt := 13) d_S_has_6 (by decide) (fun c6 => ?_) (fun c6 => ?_)
  · refine jx_iconst (v := 0) d_S_has_13 (by decide) ?_
    exact jx_zret d_S_has_14 rfl (by first | exact Or.inl rfl | exact Or.inr rfl) (by omega) (by omega) (by rw [hm.mp c6] at k; exact k)
  · refine jx_iconst (v := 1) d_S_has_9 (by decide) ?_
    refine jx_goto (tgt := 14) d_S_has_10 (by decide) ?_
    exact jx_zret d_S_has_14 rfl (by first | exact Or.inl rfl | exact Or.inr rfl) (by omega) (by omega) (by
      cases hq : sp_ix (fun j => w j == v) n with
      | none => exact absurd (hm.mpr hq) c6
      | some i => rw [hq] at k; exact k)
theorem c_S_add (hn : n < 512) (h : M a = some (kf_S na n)) (hf : M na = some (kf_la 512 w)) (hne : a ≠ na) (k : Z none (jx_up (jx_up M na (kf_la 512 (vp_updL w n v))) a (kf_S na (n + 1))) sz) : jx_Cr md_S_add G d [.ref a, .long v] M sz 0 0 Z := by
  refine jx_ent rfl (Nat.le_of_ble_eq_true rfl) (l := [some (.ref a), some (.long v), none]) (by simp [jx_le, jx_eas, Value.category]) (fun hlt => ?_)
  refine jx_aload_n (i := 0) d_S_add_0 rfl rfl ?_
  refine jx_getf d_S_add_1 gf_S_15 h rfl ?_
  refine jx_sipush (v := 512) d_S_add_4 (by decide) ?_
  refine jx_icmp_ge (tgt := 30) d_S_add_7 (by decide) (fun c7 => ?_) (fun c7 => ?_)
  · exact absurd c7 (fun q => by have := (nI_leI (a := 512) (by omega) (by omega)).mp q; omega)
  · refine jx_aload_n (i := 0) d_S_add_10 rfl rfl ?_
    refine jx_getf d_S_add_11 gf_S_9 h rfl ?_
    refine jx_aload_n (i := 0) d_S_add_14 rfl rfl ?_
    refine jx_getf d_S_add_15 gf_S_15 h rfl ?_
    refine jx_lload_n (i := 1) d_S_add_18 rfl rfl ?_
    refine jx_last (t0 := 1) d_S_add_19 hf rfl (vp_in_nI (by omega) (by omega)) ?_
    rw [nI_clamp (by omega)]
    refine jx_aload_n (i := 0) d_S_add_20 rfl rfl ?_
    refine jx_dup d_S_add_21 rfl ?_
    refine jx_getf d_S_add_22 gf_S_15 (by rw [jx_up_n _ _ hne]; exact h) rfl ?_
    refine jx_iconst (v := 1) d_S_add_25 (by decide) ?_
    refine jx_iadd d_S_add_26 ?_
    refine jx_putf d_S_add_27 pf_S_15 (by rw [jx_up_n _ _ hne]; exact h) (Nat.le_of_ble_eq_true rfl) rfl rfl ?_
    exact jx_vret d_S_add_30 rfl (by omega) (by omega) (by rw [nI_1]; exact k)
theorem c_S_remove {i : Nat} (hd : 0 < d) (hn : n ≤ 512) (h : M a = some (kf_S na n)) (hf : M na = some (kf_la 512 w)) (hne : a ≠ na) (hi : sp_ix (fun j => w j == v) n = some i) (k : Z none (jx_up (jx_up M a (kf_S na (n - 1))) na (kf_la 512 (vp_updL w i (w (n - 1))))) sz) : jx_Cr md_S_remove G d [.ref a, .long v] M sz 0 0 Z := by
  refine jx_ent rfl (Nat.le_of_ble_eq_true rfl) (l := [some (.ref a), some (.long v), none, none]) (by simp [jx_le, jx_eas, Value.category]) (fun hlt => ?_)
  have hlt2 := sp_ix_lt hi
  refine jx_aload_n (i := 0) d_S_remove_0 rfl rfl ?_
  refine jx_lload_n (i := 1) d_S_remove_1 rfl rfl ?_
  refine jx_callV1 d_S_remove_2 mv_S_19 h rfl (jx_ok_rm (by omega) (Nat.le_of_ble_eq_true rfl)) (Nat.le_of_ble_eq_true rfl) (jx_rmc (by omega)) (jx_rms (by omega)) (c_S_placeOf (d := 0) hn h hf ?_)
  dsimp only [Option.toList, List.cons_append, List.nil_append]
  have hm := kf_ix_m1 (r := sp_ix (fun j => w j == v) n) (fun i hi => (sp_ix_lt hi).1) (n := n) (by omega)
  refine jx_istore_n (i := 3) d_S_remove_5 rfl (Nat.le_of_ble_eq_true rfl) (jx_e4_3 (by trivial)) ?_
  refine jx_iload_n (i := 3) d_S_remove_6 rfl rfl ?_
  refine jx_iconst (v := (-1)) d_S_remove_7 (by decide) ?_
  refine jx_icmp_eq (tgt := 36) d_S_remove_8 (by decide) (fun c8 => ?_) (fun c8 => ?_)
  · exact absurd (hm.mp c8) (by rw [hi]; simp)
  · have hna : na ≠ a := fun q => hne q.symm
    have e1 : nI n - 1 = nI (n - 1) := by
      have := pk_sub (a := n) (b := 1) (by omega)
      exact this
    refine jx_aload_n (i := 0) d_S_remove_11 rfl rfl ?_
    refine jx_dup d_S_remove_12 rfl ?_
    refine jx_getf d_S_remove_13 gf_S_15 h rfl ?_
    refine jx_iconst (v := 1) d_S_remove_16 (by decide) ?_
    refine jx_isub d_S_remove_17 ?_
    refine jx_putf d_S_remove_18 pf_S_15 h (Nat.le_of_ble_eq_true rfl) rfl rfl ?_
    rw [e1]
    have hf2 : jx_up M a (Sum.inl (2, [Value.ref na, Value.int (nI n)].set 1 (Value.int (nI (n - 1))))) na = some (kf_la 512 w) := by rw [jx_up_n _ _ hna]; exact hf
    rw [hi]
    refine jx_aload_n (i := 0) d_S_remove_21 rfl rfl ?_
    refine jx_getf d_S_remove_22 gf_S_9 (jx_up_s _ _ _) rfl ?_
    refine jx_iload_n (i := 3) d_S_remove_25 rfl rfl ?_
    refine jx_aload_n (i := 0) d_S_remove_26 rfl rfl ?_
    refine jx_getf d_S_remove_27 gf_S_9 (jx_up_s _ _ _) rfl ?_
    refine jx_aload_n (i := 0) d_S_remove_30 rfl rfl ?_
    refine jx_getf d_S_remove_31 gf_S_15 (jx_up_s _ _ _) rfl ?_
    refine jx_lald (t0 := 1) d_S_remove_34 hf2 rfl (vp_in_nI (by omega) (by omega)) ?_
    refine jx_last (t0 := 1) d_S_remove_35 hf2 rfl (vp_in_nI (n := i) (by omega) (by omega)) ?_
    exact jx_vret d_S_remove_36 rfl (by omega) (by omega) (by rw [nI_clamp (by omega), show (kf_ix (some i)).toNatClampNeg = i from nI_clamp (by omega)]; exact k)
end CS
section CT
variable {G : jx_G} {d a ca sz c li wi : Nat} {x : Int64} {w : Nat → Int64} {M : jx_H} {Z : Option Value → jx_H → Nat → Prop}
theorem c_T_init (hl : li * wi ≤ 5000) (hl2 : li ≤ 5000) (hw : wi ≤ 5000) (h : M a = some (.inl (3, [.int 0, .int 0, .int 0, .null]))) (k : Z none (jx_up (jx_up M sz (kf_la (li * wi) (fun _ => 0))) a (kf_T 0 li wi sz)) (sz + 1)) : jx_Cr md_T_init G d [.ref a, .int (nI li), .int (nI wi)] M sz 1 (li * wi) Z := by
  refine jx_ent rfl (Nat.le_of_ble_eq_true rfl) (l := [some (.ref a), some (.int (nI li)), some (.int (nI wi))]) (by simp [jx_le, jx_eas, Value.category]) (fun hlt => ?_)
  have hne : a ≠ sz := Nat.ne_of_lt (hlt a _ h)
  have hz : M sz = none := by
    cases hq : M sz with
    | none => rfl
    | some e => exact absurd (hlt sz e hq) (Nat.lt_irrefl _)
  refine jx_aload_n (i := 0) d_T_init_0 rfl rfl ?_
  refine jx_objInit d_T_init_1 mo_T_3 (Nat.succ_le_succ (Nat.zero_le _)) (jx_rml (Nat.le_of_ble_eq_true rfl)) ?_
  refine jx_aload_n (i := 0) d_T_init_4 rfl rfl ?_
  refine jx_iconst (v := 0) d_T_init_5 (by decide) ?_
  refine jx_putf d_T_init_6 pf_T_9 h (Nat.le_of_ble_eq_true rfl) rfl rfl ?_
  refine jx_aload_n (i := 0) d_T_init_9 rfl rfl ?_
  refine jx_iload_n (i := 1) d_T_init_10 rfl rfl ?_
  refine jx_putf d_T_init_11 pf_T_15 (jx_up_s _ _ _) (Nat.le_of_ble_eq_true rfl) rfl rfl ?_
  refine jx_aload_n (i := 0) d_T_init_14 rfl rfl ?_
  refine jx_iload_n (i := 2) d_T_init_15 rfl rfl ?_
  refine jx_putf d_T_init_16 pf_T_18 (jx_up_s _ _ _) (Nat.le_of_ble_eq_true rfl) rfl rfl ?_
  refine jx_aload_n (i := 0) d_T_init_19 rfl rfl ?_
  refine jx_iload_n (i := 1) d_T_init_20 rfl rfl ?_
  refine jx_iload_n (i := 2) d_T_init_21 rfl rfl ?_
  refine jx_imul d_T_init_22 ?_
  rw [pk_mul]
  refine jx_newa (N := (li * wi)) (ak := 51) (t0 := 1) (a0 := ((li * wi), .inr (.inl fun _ => 0))) d_T_init_23 rfl na_long rfl (fun _ => rfl) (nI_pos (by omega)) (nI_clamp (by omega)) (by show _ * 8 ≤ _; omega) (jx_rmc (by omega)) (jx_rms (by omega)) (fun hno => ?_)
  refine jx_putf d_T_init_25 pf_T_21 ((jx_up_n _ _ hne).trans (jx_up_s _ _ _)) (Nat.le_of_ble_eq_true rfl) rfl rfl ?_
  exact jx_vret d_T_init_28 rfl (by omega) (by omega) (by simp only [jx_up_u]; rw [jx_up_c _ _ _ hne, jx_up_u]; exact k)
theorem c_T_keeps {q : Int32} (hc : c < 2 ^ 31) (hl : li < 2 ^ 31) (h : M a = some (kf_T c li wi ca)) (k : Z (some (.int (kf_b (decide (0 ≤ q.toInt ∧ q.toInt < c ∧ q.toInt < li))))) M sz) : jx_Cr md_T_keeps G d [.ref a, .int q] M sz 0 0 Z := by
  refine jx_ent rfl (Nat.le_of_ble_eq_true rfl) (l := [some (.ref a), some (.int q)]) (by simp [jx_le, jx_eas, Value.category]) (fun hlt => ?_)
  have e1 := nI_toInt hc
  have e2 := nI_toInt hl
  have e0 : (0 : Int32).toInt = 0 := by decide
  refine jx_iload_n (i := 1) d_T_keeps_0 rfl rfl ?_
  refine jx_if_lt (tgt := 24) d_T_keeps_1 (by decide) (fun c1 => ?_) (fun c1 => ?_)
  · refine jx_iconst (v := 0) d_T_keeps_24 (by decide) ?_
    exact jx_zret d_T_keeps_25 rfl (by first | exact Or.inl rfl | exact Or.inr rfl) (by omega) (by omega) (by
      rw [Int32.lt_iff_toInt_lt, e0] at c1
      rw [show decide (0 ≤ q.toInt ∧ q.toInt < c ∧ q.toInt < li) = false from decide_eq_false (by omega)] at k
      exact k)
  · refine jx_iload_n (i := 1) d_T_keeps_4 rfl rfl ?_
    refine jx_aload_n (i := 0) d_T_keeps_5 rfl rfl ?_
    refine jx_getf d_T_keeps_6 gf_T_9 h rfl ?_
    refine jx_icmp_ge (tgt := 24) d_T_keeps_9 (by decide) (fun c9 => ?_) (fun c9 => ?_)
    · refine jx_iconst (v := 0) d_T_keeps_24 (by decide) ?_
      exact jx_zret d_T_keeps_25 rfl (by first | exact Or.inl rfl | exact Or.inr rfl) (by omega) (by omega) (by
        rw [Int32.le_iff_toInt_le, e1] at c9
        rw [show decide (0 ≤ q.toInt ∧ q.toInt < c ∧ q.toInt < li) = false from decide_eq_false (by omega)] at k
        exact k)
    · refine jx_iload_n (i := 1) d_T_keeps_12 rfl rfl ?_
      refine jx_aload_n (i := 0) d_T_keeps_13 rfl rfl ?_
      refine jx_getf d_T_keeps_14 gf_T_15 h rfl ?_
      refine jx_icmp_ge (tgt := 24) d_T_keeps_17 (by decide) (fun c17 => ?_) (fun c17 => ?_)
      · refine jx_iconst (v := 0) d_T_keeps_24 (by decide) ?_
        exact jx_zret d_T_keeps_25 rfl (by first | exact Or.inl rfl | exact Or.inr rfl) (by omega) (by omega) (by
          rw [Int32.le_iff_toInt_le, e2] at c17
          rw [show decide (0 ≤ q.toInt ∧ q.toInt < c ∧ q.toInt < li) = false from decide_eq_false (by omega)] at k
          exact k)
      · refine jx_iconst (v := 1) d_T_keeps_20 (by decide) ?_
        refine jx_goto (tgt := 25) d_T_keeps_21 (by decide) ?_
        exact jx_zret d_T_keeps_25 rfl (by first | exact Or.inl rfl | exact Or.inr rfl) (by omega) (by omega) (by
          rw [Int32.lt_iff_toInt_lt, e0] at c1
          rw [Int32.le_iff_toInt_le, e1] at c9
          rw [Int32.le_iff_toInt_le, e2] at c17
          rw [show decide (0 ≤ q.toInt ∧ q.toInt < c ∧ q.toInt < li) = true from decide_eq_true (by omega)] at k
          exact k)
theorem c_T_addLine (hc : c < 2 ^ 30) (hl : li < 2 ^ 31) (h : M a = some (kf_T c li wi ca)) (k : Z (some (.int (if c < li then nI c else -1))) (jx_up M a (kf_T (c + 1) li wi ca)) sz) : jx_Cr md_T_addLine G d [.ref a] M sz 0 0 Z := by
  refine jx_ent rfl (Nat.le_of_ble_eq_true rfl) (l := [some (.ref a), none]) (by simp [jx_le, jx_eas, Value.category]) (fun hlt => ?_)
  refine jx_aload_n (i := 0) d_T_addLine_0 rfl rfl ?_
  refine jx_getf d_T_addLine_1 gf_T_9 h rfl ?_
  refine jx_istore_n (i := 1) d_T_addLine_4 rfl (Nat.le_of_ble_eq_true rfl) (jx_e2_1 (by trivial)) ?_
  refine jx_aload_n (i := 0) d_T_addLine_5 rfl rfl ?_
  refine jx_dup d_T_addLine_6 rfl ?_
  refine jx_getf d_T_addLine_7 gf_T_9 h rfl ?_
  refine jx_iconst (v := 1) d_T_addLine_10 (by decide) ?_
  refine jx_iadd d_T_addLine_11 ?_
  refine jx_putf d_T_addLine_12 pf_T_9 h (Nat.le_of_ble_eq_true rfl) rfl rfl ?_
  rw [nI_1]
  refine jx_iload_n (i := 1) d_T_addLine_15 rfl rfl ?_
  refine jx_if_lt (tgt := 31) d_T_addLine_16 (by decide) (fun c16 => ?_) (fun c16 => ?_)
  · exact absurd c16 (nI_pos (by omega))
  · refine jx_iload_n (i := 1) d_T_addLine_19 rfl rfl ?_
    refine jx_aload_n (i := 0) d_T_addLine_20 rfl rfl ?_
    refine jx_getf d_T_addLine_21 gf_T_15 (jx_up_s _ _ _) rfl ?_
    refine jx_icmp_ge (tgt := 31) d_T_addLine_24 (by decide) (fun c24 => ?_) (fun c24 => ?_)
    · refine jx_iconst (v := (-1)) d_T_addLine_31 (by decide) ?_
      exact jx_iret d_T_addLine_32 rfl (by omega) (by omega) (by rw [if_neg (fun q => by have := (nI_leI (by omega) (by omega)).mp c24; omega)] at k; exact k)
    · refine jx_iload_n (i := 1) d_T_addLine_27 rfl rfl ?_
      refine jx_goto (tgt := 32) d_T_addLine_28 (by decide) ?_
      exact jx_iret d_T_addLine_32 rfl (by omega) (by omega) (by rw [if_pos (by rcases Nat.lt_or_ge c li with q | q; exact q; exact absurd ((nI_leI (by omega) (by omega)).mpr q) c24)] at k; exact k)
theorem c_T_set {i j : Nat} (hi : i * wi + j < li * wi) (hl : li * wi ≤ 5000) (h : M a = some (kf_T c li wi ca)) (hf : M ca = some (kf_la (li * wi) w)) (k : Z none (jx_up M ca (kf_la (li * wi) (vp_updL w (i * wi + j) x))) sz) : jx_Cr md_T_set G d [.ref a, .int (nI i), .int (nI j), .long x] M sz 0 0 Z := by
  refine jx_ent rfl (Nat.le_of_ble_eq_true rfl) (l := [some (.ref a), some (.int (nI i)), some (.int (nI j)), some (.long x), none]) (by simp [jx_le, jx_eas, Value.category]) (fun hlt => ?_)
  refine jx_aload_n (i := 0) d_T_set_0 rfl rfl ?_
  refine jx_getf d_T_set_1 gf_T_21 h rfl ?_
  refine jx_iload_n (i := 1) d_T_set_4 rfl rfl ?_
  refine jx_aload_n (i := 0) d_T_set_5 rfl rfl ?_
  refine jx_getf d_T_set_6 gf_T_18 h rfl ?_
  refine jx_imul d_T_set_9 ?_
  refine jx_iload_n (i := 2) d_T_set_10 rfl rfl ?_
  refine jx_iadd d_T_set_11 ?_
  rw [pk_mul, nI_add]
  refine jx_lload_n (i := 3) d_T_set_12 rfl rfl ?_
  refine jx_last (t0 := 1) d_T_set_13 hf rfl (vp_in_nI (by omega) (by omega)) ?_
  exact jx_vret d_T_set_14 rfl (by omega) (by omega) (by rw [nI_clamp (by omega)]; exact k)
theorem c_T_cell {i j : Nat} (hi : i * wi + j < li * wi) (hl : li * wi ≤ 5000) (h : M a = some (kf_T c li wi ca)) (hf : M ca = some (kf_la (li * wi) w)) (k : Z (some (.long (w (i * wi + j)))) M sz) : jx_Cr md_T_cell G d [.ref a, .int (nI i), .int (nI j)] M sz 0 0 Z := by
  refine jx_ent rfl (Nat.le_of_ble_eq_true rfl) (l := [some (.ref a), some (.int (nI i)), some (.int (nI j))]) (by simp [jx_le, jx_eas, Value.category]) (fun hlt => ?_)
  refine jx_aload_n (i := 0) d_T_cell_0 rfl rfl ?_
  refine jx_getf d_T_cell_1 gf_T_21 h rfl ?_
  refine jx_iload_n (i := 1) d_T_cell_4 rfl rfl ?_
  refine jx_aload_n (i := 0) d_T_cell_5 rfl rfl ?_
  refine jx_getf d_T_cell_6 gf_T_18 h rfl ?_
  refine jx_imul d_T_cell_9 ?_
  refine jx_iload_n (i := 2) d_T_cell_10 rfl rfl ?_
  refine jx_iadd d_T_cell_11 ?_
  rw [pk_mul, nI_add]
  refine jx_lald (t0 := 1) d_T_cell_12 hf rfl (vp_in_nI (by omega) (by omega)) ?_
  exact jx_lret d_T_cell_13 rfl (by omega) (by omega) (by rw [nI_clamp (by omega)]; exact k)
end CT
end
section
/-! PART 13: rows that the JDK's methods need -/
theorem jx_sysi : Cond.initialized "java/lang/System" ∈ jx_tb := by decide +kernel
section JXJ
variable {y : jx_md} {hh : jx_h4} {G : jx_G} {R : Room} {Q : Array Value → State → List Frame → State → Prop} {pc : Nat} {l : List (Option Value)} {st : List Value} {M : jx_H} {sz kc ks a k i : Nat} {fs : List Value}
theorem jx_gets0 {idx : Nat} (dc : decode y.2.1 pc = .ok (.getstatic idx, 3)) (lk : Cond.fieldLink y.1.cls idx "java/util/ArrayList" "DEFAULTCAPACITY_EMPTY_ELEMENTDATA" "[Ljava/lang/Object;" ∈ jx_tb) (kk : jx_V y hh G R Q (pc + 3) l (.ref (jx_ea G) :: st) M sz kc ks) : jx_V y hh G R Q pc l st M sz kc ks := by
  intro p L e s m args below meth c C K H locs ls hR hS hL
  obtain ⟨hx, hb, hr, hml, hown, hts, hlk, hnm, hex, hst⟩ := id C
  exact va_gets hx hb K.2.2.2.2.1 hS.va hown (hts _ lk) (fun _ h => h) dc (kk p L e s m args below meth c C K H locs ls hR hS hL)
theorem jx_tlen (dc : decode y.2.1 pc = .ok (.arraylength, 1)) (kk : jx_V y hh G R Q (pc + 1) l (.int (nI 0) :: st) M sz kc ks) : jx_V y hh G R Q pc l (.ref (jx_ea G) :: st) M sz kc ks := by
  intro p L e s m args below meth c C K H locs ls hR hS hL
  obtain ⟨hx, hb, hr, hml, hown, hts, hlk, hnm, hex, hst⟩ := id C
  exact va_tlen hx hb K.2.2.2.2.2.1 hS.va rfl dc (kk p L e s m args below meth c C K H locs ls hR hS hL)
theorem jx_acmp_eq {rx rz : Option Nat} {off : Int} {tgt : Nat} (dc : decode y.2.1 pc = .ok (.if_acmp .eq off, 3)) (ht : (pc : Int) + off = (tgt : Int)) (kt : rx = rz → jx_V y hh G R Q tgt l st M sz kc ks) (kf : ¬ rx = rz → jx_V y hh G R Q (pc + 3) l st M sz kc ks) : jx_V y hh G R Q pc l (va_rf rz :: va_rf rx :: st) M sz kc ks := by
  intro p L e s m args below meth c C K H locs ls hR hS hL
  obtain ⟨hx, hb, hr, hml, hown, hts, hlk, hnm, hex, hst⟩ := id C
  exact lv_acmp_eq hx hb dc ht (fun q => kt q p L e s m args below meth c C K H locs ls hR hS hL) (fun q => kf q p L e s m args below meth c C K H locs ls hR hS hL)
theorem jx_acmp_ne {rx rz : Option Nat} {off : Int} {tgt : Nat} (dc : decode y.2.1 pc = .ok (.if_acmp .ne off, 3)) (ht : (pc : Int) + off = (tgt : Int)) (kt : ¬ rx = rz → jx_V y hh G R Q tgt l st M sz kc ks) (kf : rx = rz → jx_V y hh G R Q (pc + 3) l st M sz kc ks) : jx_V y hh G R Q pc l (va_rf rz :: va_rf rx :: st) M sz kc ks := by
  intro p L e s m args below meth c C K H locs ls hR hS hL
  obtain ⟨hx, hb, hr, hml, hown, hts, hlk, hnm, hex, hst⟩ := id C
  exact lv_acmp_ne hx hb dc ht (fun q => kt q p L e s m args below meth c C K H locs ls hR hS hL) (fun q => kf q p L e s m args below meth c C K H locs ls hR hS hL)
theorem jx_null (dc : decode y.2.1 pc = .ok (.aconst_null, 1)) (kk : jx_V y hh G R Q (pc + 1) l (.null :: st) M sz kc ks) : jx_V y hh G R Q pc l st M sz kc ks := by
  intro p L e s m args below meth c C K H locs ls hR hS hL
  obtain ⟨hx, hb, hr, hml, hown, hts, hlk, hnm, hex, hst⟩ := id C
  exact lv_null hx hb dc (kk p L e s m args below meth c C K H locs ls hR hS hL)
theorem jx_RA {s : State} (K : jx_K G s) : va_RA s ((jx_D G).1 52) (.object "java/lang/Object") := (K.1.2 2 _ (jx_tyat (t0 := 2) rfl)).2
theorem jx_anew {idx N : Nat} {n : Int32} (dc : decode y.2.1 pc = .ok (.anewarray idx, 3)) (h1 : Cond.classLink y.1.cls idx "java/lang/Object" ∈ jx_tb) (h2 : Cond.arrayOver (.object "java/lang/Object") ∈ jx_nb) (hn : ¬ n < 0) (hN : n.toNatClampNeg = N) (hby : N * 4 ≤ 536870912) (hc : kc + 1 ≤ R.cells) (hs : ks + N ≤ R.slots) (kk : M sz = none → jx_V y hh G R Q (pc + 3) l (.ref sz :: st) (jx_up M sz (kf_oa N (fun _ => none))) (sz + 1) (kc + 1) (ks + N)) : jx_V y hh G R Q pc l (.int n :: st) M sz kc ks := by
  intro p L e s m args below meth c C K H locs ls hR hS hL
  obtain ⟨hx, hb, hr, hml, hown, hts, hlk, hnm, hex, hst⟩ := id C
  have hno : M sz = none := by
    cases h : M sz with
    | none => rfl
    | some e => exact absurd (hR.lt h) (Nat.lt_irrefl _)
  subst hN
  refine W.anew hx hb hown (hts _ h1) (K.2.1 _ h2) rfl dc rfl hn hby hc hs fun cA kA comp g1 g2 g3 g4 => ?_
  have hcA : cA = (jx_D G).1 52 := by
    obtain ⟨_, _, _, _, _, h⟩ := jx_RA K
    exact Option.some.inj (g1.symm.trans h)
  have hz := hR.1
  have e1 : (H.push { cls := cA, slots := Array.replicate n.toNatClampNeg .null, vm := .none })[sz]? = some (arrV ((jx_D G).1 52) n.toNatClampNeg (fun _ => .null)) := by
    rw [← hcA, ← arrV_new, ← hz]
    simp
  have e2 : (H.push { cls := cA, slots := Array.replicate n.toNatClampNeg .null, vm := .none }).size = sz + 1 := by
    rw [← hz]
    simp
  have e3 : ∀ q : Nat, q < sz → (H.push { cls := cA, slots := Array.replicate n.toNatClampNeg .null, vm := .none })[q]? = H[q]? := by
    intro q hq
    rw [Array.getElem?_push, if_neg (by omega)]
  generalize H.push { cls := cA, slots := Array.replicate n.toNatClampNeg .null, vm := .none } = H1 at e1 e2 e3 ⊢
  have e4 : F0 m (pc + 3) ls (.ref H.size :: st) = F0 m (pc + 3) ls (.ref sz :: st) := by rw [hz]
  refine W.eq e4 ?_
  exact kk hno p L e s m args below meth c C K H1 locs ls (hR.push e2 e3 e1) (hS.push hz hR.2.1 e2 e3) hL
theorem jx_aast {n v : Nat} {f : Nat → Option Nat} {C0 : String} {T : u_T} {N : Nat} {j : Int32} (dc : decode y.2.1 pc = .ok (.aastore, 1)) (hM : M a = some (kf_oa n f)) (hv : M v = some (.inl (k, fs))) (h1 : vwCl[k]? = some (C0, T, N)) (h2 : Cond.castable C0 "java/lang/Object" ∈ jx_nb) (hj : vp_in j n) (kk : jx_V y hh G R Q (pc + 1) l st (jx_up M a (kf_oa n (va_up f j.toNatClampNeg (some v)))) sz kc ks) : jx_V y hh G R Q pc l (.ref v :: .int j :: .ref a :: st) M sz kc ks := by
  intro p L e s m args below meth c C K H locs ls hR hS hL
  obtain ⟨hx, hb, hr, hml, hown, hts, hlk, hnm, hex, hst⟩ := id C
  have hlt : j.toNatClampNeg < n := Nat.not_le.mp fun q => hj (Or.inr q)
  have h0 : ¬ j < 0 := fun q => hj (Or.inl q)
  obtain ⟨cellV, g1, g3, g2⟩ := jx_recv hR K hv h1
  obtain ⟨kA, comp, k1, k2, k3, -⟩ := jx_RA K
  obtain ⟨kE, hkE, -⟩ := Vm.findClass_spec k3
  obtain ⟨kC, hkC, -⟩ := Vm.findClass_spec g2
  have hB := (hR.2.2 a _ hM).1
  refine W.aast hx hb (hR.2.2 a _ hM).2 (fun q h => by cases h) (fun h => by cases h) k1 k2 rfl hkE ⟨h0, by show _ < (arrV _ _ _).slots.size; rw [arrV_size]; exact hlt⟩ g1 (fun q h => by rw [h] at g3; cases g3) hkC (vb_asgC (K.2.1 _ h2) _ _ k3 g2) rfl rfl dc fun H1 e1 z oq => ?_
  refine kk p L e s m args below meth c C K H1 _ ls (hR.set hB z oq ?_) (hS.put z oq hB) hL
  show H1[a]? = some (arrV ((jx_D G).1 52) n (fun q => va_rf (va_up f j.toNatClampNeg (some v) q)))
  rw [e1]
  show some ((arrV ((jx_D G).1 52) n (fun q => va_rf (f q))).setSlot _ _) = _
  rw [arrV_store]
  congr 2
  funext q
  by_cases hq : q = j.toNatClampNeg
  · subst hq
    simp [updV, va_up, va_rf]
  · simp [updV, va_up, hq]
theorem jx_getC {idx n : Nat} {f : Nat → Option Nat} (dc : decode y.2.1 pc = .ok (.invokevirtual idx, 3)) (lk : Cond.methodLink y.1.cls idx ⟨"java/lang/Object", "getClass", "()Ljava/lang/Class;"⟩ ∈ jx_tb) (hM : M a = some (kf_oa n f)) (h1 : 1 ≤ R.frames) (h2 : (st.map fun v => v.category).sum + 14 ≤ R.locals) (kk : jx_V y hh G R Q (pc + 3) l (.ref (jx_mi G) :: st) M sz kc ks) : jx_V y hh G R Q pc l (.ref a :: st) M sz kc ks := by
  intro p L e s m args below meth c C K H locs ls hR hS hL
  obtain ⟨hx, hb, hr, hml, hown, hts, hlk, hnm, hex, hst⟩ := id C
  have hmi := K.2.2.2.2.2.2.2.2.2.2
  have hA := va_nmO (nm := "[Ljava/lang/Object;") (jx_RA K) (by decide)
  exact va_getC hx hb (hml.trans hL.1.symm) hown (hts _ lk) (va_Nw.use rfl (K.2.1 _ (jx_nbm 941 (by decide +kernel) rfl))) (hts _ (jx_mem 940 (by decide +kernel) rfl)) (hts _ (jx_mem 310 (by decide +kernel) rfl)) (hts _ (jx_mem 322 (by decide +kernel) rfl)) hmi ⟨_, (hR.2.2 a _ hM).2, rfl, hA⟩ h1 h2 dc (kk p L e s m args below meth c C K H locs ls hR hS hL)
theorem jx_ldcM {idx : Nat} (dc : decode y.2.1 pc = .ok (.ldc idx, 2)) (lk : Cond.classLink y.1.cls idx "[Ljava/lang/Object;" ∈ jx_tb) (kk : jx_V y hh G R Q (pc + 2) l (.ref (jx_mi G) :: st) M sz kc ks) : jx_V y hh G R Q pc l st M sz kc ks := by
  intro p L e s m args below meth c C K H locs ls hR hS hL
  obtain ⟨hx, hb, hr, hml, hown, hts, hlk, hnm, hex, hst⟩ := id C
  exact va_ldcM hx hb hown (hts _ lk) K.2.2.2.2.2.2.2.2.2.2 dc (kk p L e s m args below meth c C K H locs ls hR hS hL)
/-- System.arraycopy between two arrays of references whose elements are objects of class number k -/
theorem jx_copyq {idx a0 n0 n1 N : Nat} {f g : Nat → Option Nat} {C0 : String} {T : u_T} {sp dp n : Int32} (dc : decode y.2.1 pc = .ok (.invokestatic idx, 3)) (lk : Cond.methodLink y.1.cls idx arraycopyName ∈ jx_tb) (h1 : vwCl[k]? = some (C0, T, N)) (h2 : Cond.castable C0 "java/lang/Object" ∈ jx_nb)
    (hM0 : M a0 = some (kf_oa n0 f)) (hM1 : M a = some (kf_oa n1 g)) (hp : ¬ sp < 0) (hq : ¬ dp < 0) (hn : ¬ n < 0) (h4 : sp.toNatClampNeg + n.toNatClampNeg ≤ n0) (h5 : dp.toNatClampNeg + n.toNatClampNeg ≤ n1) (hel : ∀ i : Nat, i < n.toNatClampNeg → ∀ z : Nat, f (sp.toNatClampNeg + i) = some z → ∃ fs : List Value, M z = some (.inl (k, fs)))
    (hf : 1 ≤ R.frames) (hlo : (st.map fun v => v.category).sum + (nativeFrameWords "java/lang/System" "arraycopy" 5 + 11) ≤ R.locals) (kk : jx_V y hh G R Q (pc + 3) l st (jx_up M a (kf_oa n1 (va_cpy f g sp.toNatClampNeg dp.toNatClampNeg n.toNatClampNeg))) sz kc ks) : jx_V y hh G R Q pc l (.int n :: .int dp :: .ref a :: .int sp :: .ref a0 :: st) M sz kc ks := by
  intro p L e s m args below meth c C K H locs ls hR hS hL
  obtain ⟨hx, hb, hr, hml, hown, hts, hlk, hnm, hex, hst⟩ := id C
  have nn : ∀ z : Int32, ¬ z < 0 → z.toInt = (z.toNatClampNeg : Int) := by
    intro z hz
    have hz0 : (0 : Int) ≤ z.toInt := by
      have := Int32.not_lt.mp hz
      simpa using Int32.le_iff_toInt_le.mp this
    show z.toInt = ((z.toInt.toNat : Nat) : Int)
    omega
  have hB := (hR.2.2 a _ hM1).1
  intro T0 hT X
  have hc0 : H[a0]? = some (vp_cell ((jx_D G).1 52) (n0, .inr (.inr (.inr (.inr f))))) := (hR.2.2 a0 _ hM0).2
  have hc1 : H[a]? = some (vp_cell ((jx_D G).1 52) (n1, .inr (.inr (.inr (.inr g))))) := (hR.2.2 a _ hM1).2
  obtain ⟨-, k0, hk0, cm0, hkk0⟩ := (K.1.2 2 _ (jx_tyat (t0 := 2) rfl)).1 n0 (fun j => va_rf (f j))
  obtain ⟨-, k1, hk1, cm1, hkk1⟩ := (K.1.2 2 _ (jx_tyat (t0 := 2) rfl)).1 n1 (fun j => va_rf (g j))
  obtain ⟨vm', X', step⟩ := X.arraycopy hx hown (hts _ lk) (hts _ (jx_mem 332 (by decide +kernel) rfl)) (hts _ (jx_mem 331 (by decide +kernel) rfl)) (hts _ jx_sysi) (src := a0) (dst := a) (cs := vp_cell ((jx_D G).1 52) (n0, .inr (.inr (.inr (.inr f))))) (cd := vp_cell ((jx_D G).1 52) (n1, .inr (.inr (.inr (.inr g))))) (srcPos := sp) (destPos := dp) (n := n) (by rw [hT]; exact hc0) (by rw [hT]; exact hc1)
    (fun _ h => by cases h) (fun _ h => by cases h) (fun h => by cases h) (fun h => by cases h) hk0 hk1 hkk0 hkk1 rfl hp hq hn
    (by rw [nn sp hp, nn n hn]; show ¬ _ > ((arrV _ n0 (fun j => va_rf (f j))).slots.size : Int); rw [arrV_size]; omega)
    (by rw [nn dp hq, nn n hn]; show ¬ _ > ((arrV _ n1 (fun j => va_rf (g j))).slots.size : Int); rw [arrV_size]; omega)
    (fun vm₁ hal i hi => by
      have e : (vp_cell ((jx_D G).1 52) (n0, .inr (.inr (.inr (.inr f))))).slots.getD (sp.toNatClampNeg + i) .null = va_rf (f (sp.toNatClampNeg + i)) := by
        show (arrV _ n0 (fun j => va_rf (f j))).slots.getD _ _ = _
        rw [Array.getD_eq_getD_getElem?, arrV_read _ _ (by omega)]
        rfl
      rw [e]
      cases hy : f (sp.toNatClampNeg + i) with
      | none => exact ⟨rfl, trivial⟩
      | some z =>
        obtain ⟨fs, hfs⟩ := hel i hi z hy
        obtain ⟨cellV, g1, g2, g3⟩ := jx_recv hR K hfs h1
        obtain ⟨kA, comp, r1, r2, r3, -⟩ := jx_RA K
        cases hk1.symm.trans r1
        cases hkk1.symm.trans r2
        obtain ⟨kC, hkC, -⟩ := Vm.findClass_spec g3
        obtain ⟨kE, hkE, -⟩ := Vm.findClass_spec r3
        obtain ⟨kC', hkC', -⟩ := hal.2.2 _ _ hkC
        obtain ⟨kE', hkE', -⟩ := hal.2.2 _ _ hkE
        refine ⟨rfl, cellV, (show T0.heap[z]? = some cellV by rw [hT]; exact g1), (fun q h => by rw [h] at g2; cases g2), ⟨kC', hkC'⟩, ?_, ?_⟩
        · exact ⟨kE', hkE'⟩
        · show vm₁.assignable _ _ = true
          rw [hal.assignable]
          exact vb_asgC (K.2.1 _ h2) _ _ r3 g3)
    (g := F0 m pc ls (.int n :: .int dp :: .ref a :: .int sp :: .ref a0 :: st)) rfl (by rw [hml]; exact hL.1) (rest := st) rfl (by rw [hb]; exact dc) hf (by show 2 * 0 + _ + _ ≤ _; omega)
  have e1 : copied (vp_cell ((jx_D G).1 52) (n0, .inr (.inr (.inr (.inr f))))) (vp_cell ((jx_D G).1 52) (n1, .inr (.inr (.inr (.inr g))))) sp dp n = vp_cell ((jx_D G).1 52) (n1, .inr (.inr (.inr (.inr (va_cpy f g sp.toNatClampNeg dp.toNatClampNeg n.toNatClampNeg))))) := by
    rw [vp_cell_q, vp_cell_q, vp_cell_q]
    exact va_copied (fun z => va_rf z) _ _ f g h4
  rw [e1] at X' step
  have hl : a < H.size := (Array.getElem?_eq_some_iff.mp hc1).1
  have hheap : ((T0.setVm vm').setCell a (vp_cell ((jx_D G).1 52) (n1, .inr (.inr (.inr (.inr (va_cpy f g sp.toNatClampNeg dp.toNatClampNeg n.toNatClampNeg))))))).heap = H.setIfInBounds a (vp_cell ((jx_D G).1 52) (n1, .inr (.inr (.inr (.inr (va_cpy f g sp.toNatClampNeg dp.toNatClampNeg n.toNatClampNeg)))))) := by rw [← hT]; rfl
  have ez : (H.setIfInBounds a (vp_cell ((jx_D G).1 52) (n1, .inr (.inr (.inr (.inr (va_cpy f g sp.toNatClampNeg dp.toNatClampNeg n.toNatClampNeg))))))).size = H.size := by simp
  have oq : ∀ q : Nat, q ≠ a → (H.setIfInBounds a (vp_cell ((jx_D G).1 52) (n1, .inr (.inr (.inr (.inr (va_cpy f g sp.toNatClampNeg dp.toNatClampNeg n.toNatClampNeg)))))))[q]? = H[q]? := fun q hq => by simp [Array.getElem?_setIfInBounds, Ne.symm hq]
  have ea : jx_at G a (kf_oa n1 (va_cpy f g sp.toNatClampNeg dp.toNatClampNeg n.toNatClampNeg)) (H.setIfInBounds a (vp_cell ((jx_D G).1 52) (n1, .inr (.inr (.inr (.inr (va_cpy f g sp.toNatClampNeg dp.toNatClampNeg n.toNatClampNeg))))))) := by
    show (H.setIfInBounds a _)[a]? = some _
    simp [Array.getElem?_setIfInBounds, hl]
  obtain ⟨t, a1, b1⟩ := kk p L e s m args below meth c C K _ _ ls (hR.set hB ez oq ea) ⟨by rw [ez]; exact hS.1, fun q g1 => by rw [oq q (by omega)]; exact hS.2.1 q g1, fun q hq => by
      rcases List.mem_append.mp hq with h | h
      · exact hS.2.2 q h
      · obtain ⟨z, -, hz⟩ := List.mem_map.mp h
        rw [← hz]
        exact hB⟩ hL _ hheap X'
  exact ⟨t, step t a1, b1⟩
end JXJ
end
section
/-! PART 14: Math, and ArrayList -/
theorem i_nlt {x z : Int32} (h : ¬ x < z) : z ≤ x := Int32.not_lt.mp h
def sp_abs (u : Int64) : Int64 := if 0 < u then u else -u
theorem jx_rmm {d mc ms k : Nat} (h : k + 15 ≤ 100) : k + 15 ≤ (jx_rm d mc ms).locals := Nat.le_trans h (Nat.le_add_left _ _)
section CMA
variable {y : jx_md} {hh : jx_h4} {G : jx_G} {R : Room} {Q : Array Value → State → List Frame → State → Prop} {pc : Nat} {l : List (Option Value)} {st : List Value} {M : jx_H} {sz kc ks : Nat}
theorem jx_mmax {idx : Nat} {x z : Int32} (dc : decode y.2.1 pc = .ok (.invokestatic idx, 3)) (lk : Cond.methodLink y.1.cls idx Lib.Math.max.name ∈ jx_tb) (h1 : 1 ≤ R.frames) (h2 : (st.map fun v => v.category).sum + 15 ≤ R.locals) (hc : kc ≤ R.cells) (hs : ks ≤ R.slots) (kk : jx_V y hh G R Q (pc + 3) l (.int (if x < z then z else x) :: st) M sz kc ks) : jx_V y hh G R Q pc l (.int z :: .int x :: st) M sz kc ks := by
  intro p L e s m args below meth c C K H locs ls hR hS hL
  obtain ⟨hx, hb, hr, hml, hown, hts, hlk, hnm, hex, hst⟩ := id C
  exact va_mmax hx hb (hml.trans hL.1.symm) hown (hts _ lk) (hts _ (jx_mem 99 (by decide +kernel) rfl)) (hts _ (jx_mem 7 (by decide +kernel) rfl)) (hts _ (jx_mem 100 (by decide +kernel) rfl)) h1 (by omega) hc hs dc (kk p L e s m args below meth c C K H locs ls hR hS hL)
theorem jx_mmin {idx : Nat} {x z : Int32} (dc : decode y.2.1 pc = .ok (.invokestatic idx, 3)) (lk : Cond.methodLink y.1.cls idx Lib.Math.min.name ∈ jx_tb) (h1 : 1 ≤ R.frames) (h2 : (st.map fun v => v.category).sum + 15 ≤ R.locals) (hc : kc ≤ R.cells) (hs : ks ≤ R.slots) (kk : jx_V y hh G R Q (pc + 3) l (.int (if z < x then z else x) :: st) M sz kc ks) : jx_V y hh G R Q pc l (.int z :: .int x :: st) M sz kc ks := by
  intro p L e s m args below meth c C K H locs ls hR hS hL
  obtain ⟨hx, hb, hr, hml, hown, hts, hlk, hnm, hex, hst⟩ := id C
  exact va_mmin hx hb (hml.trans hL.1.symm) hown (hts _ lk) (hts _ (jx_mem 96 (by decide +kernel) rfl)) (hts _ (jx_mem 7 (by decide +kernel) rfl)) (hts _ (jx_mem 97 (by decide +kernel) rfl)) h1 (by omega) hc hs dc (kk p L e s m args below meth c C K H locs ls hR hS hL)
theorem jx_mmaxl {idx : Nat} {x z : Int64} (dc : decode y.2.1 pc = .ok (.invokestatic idx, 3)) (lk : Cond.methodLink y.1.cls idx Lib.MathLoose.max_long.x ∈ jx_tb) (h1 : 1 ≤ R.frames) (h2 : (st.map fun v => v.category).sum + 15 ≤ R.locals) (hc : kc ≤ R.cells) (hs : ks ≤ R.slots) (kk : jx_V y hh G R Q (pc + 3) l (.long (if z < x then x else z) :: st) M sz kc ks) : jx_V y hh G R Q pc l (.long z :: .long x :: st) M sz kc ks := by
  intro p L e s m args below meth c C K H locs ls hR hS hL
  obtain ⟨hx, hb, hr, hml, hown, hts, hlk, hnm, hex, hst⟩ := id C
  exact va_mmax_long hx hb (hml.trans hL.1.symm) hown (hts _ lk) (hts _ (jx_mem 533 (by decide +kernel) rfl)) (hts _ (jx_mem 7 (by decide +kernel) rfl)) (hts _ (jx_mem 534 (by decide +kernel) rfl)) h1 (by omega) hc hs dc (kk p L e s m args below meth c C K H locs ls hR hS hL)
theorem jx_mminl {idx : Nat} {x z : Int64} (dc : decode y.2.1 pc = .ok (.invokestatic idx, 3)) (lk : Cond.methodLink y.1.cls idx Lib.MathLoose.min_long.x ∈ jx_tb) (h1 : 1 ≤ R.frames) (h2 : (st.map fun v => v.category).sum + 15 ≤ R.locals) (hc : kc ≤ R.cells) (hs : ks ≤ R.slots) (kk : jx_V y hh G R Q (pc + 3) l (.long (if z < x then z else x) :: st) M sz kc ks) : jx_V y hh G R Q pc l (.long z :: .long x :: st) M sz kc ks := by
  intro p L e s m args below meth c C K H locs ls hR hS hL
  obtain ⟨hx, hb, hr, hml, hown, hts, hlk, hnm, hex, hst⟩ := id C
  exact va_mmin_long hx hb (hml.trans hL.1.symm) hown (hts _ lk) (hts _ (jx_mem 566 (by decide +kernel) rfl)) (hts _ (jx_mem 7 (by decide +kernel) rfl)) (hts _ (jx_mem 567 (by decide +kernel) rfl)) h1 (by omega) hc hs dc (kk p L e s m args below meth c C K H locs ls hR hS hL)
theorem jx_mabsl {idx : Nat} {x : Int64} (dc : decode y.2.1 pc = .ok (.invokestatic idx, 3)) (lk : Cond.methodLink y.1.cls idx Lib.MathLoose.abs_long.x ∈ jx_tb) (h1 : 1 ≤ R.frames) (h2 : (st.map fun v => v.category).sum + 15 ≤ R.locals) (hc : kc ≤ R.cells) (hs : ks ≤ R.slots) (kk : jx_V y hh G R Q (pc + 3) l (.long (sp_abs x) :: st) M sz kc ks) : jx_V y hh G R Q pc l (.long x :: st) M sz kc ks := by
  intro p L e s m args below meth c C K H locs ls hR hS hL
  obtain ⟨hx, hb, hr, hml, hown, hts, hlk, hnm, hex, hst⟩ := id C
  exact va_mabs_long hx hb (hml.trans hL.1.symm) hown (hts _ lk) (hts _ (jx_mem 445 (by decide +kernel) rfl)) (hts _ (jx_mem 7 (by decide +kernel) rfl)) (hts _ (jx_mem 446 (by decide +kernel) rfl)) h1 (by omega) hc hs dc (kk p L e s m args below meth c C K H locs ls hR hS hL)
end CMA
/-- an ArrayList: modCount, its array, its size -/
abbrev kf_A (mo : Int32) (ar n : Nat) : jx_E := .inl (6, [.int mo, .ref ar, .int (nI n)])
section CA
variable {G : jx_G} {d a ar sz n : Nat} {mo : Int32} {M : jx_H} {Z : Option Value → jx_H → Nat → Prop}
theorem c_AC_init (k : Z none M sz) : jx_Cr md_AC_init G d [.ref a] M sz 0 0 Z := by
  refine jx_ent rfl (Nat.le_of_ble_eq_true rfl) (l := [some (.ref a)]) (by simp [jx_le, jx_eas, Value.category]) (fun hlt => ?_)
  refine jx_aload_n (i := 0) d_AC_init_0 rfl rfl ?_
  refine jx_objInit d_AC_init_1 mo_AC_1 (Nat.succ_le_succ (Nat.zero_le _)) (jx_rml (Nat.le_of_ble_eq_true rfl)) ?_
  exact jx_vret d_AC_init_4 rfl (by omega) (by omega) k
theorem c_AL_init {x : Value} {n : Int32} (hd : 0 < d) (h : M a = some (.inl (6, [.int mo, x, .int n]))) (k : Z none (jx_up M a (.inl (6, [.int 0, x, .int n]))) sz) : jx_Cr md_AL_init G d [.ref a] M sz 0 0 Z := by
  refine jx_ent rfl (Nat.le_of_ble_eq_true rfl) (l := [some (.ref a)]) (by simp [jx_le, jx_eas, Value.category]) (fun hlt => ?_)
  refine jx_aload_n (i := 0) d_AL_init_0 rfl rfl ?_
  refine jx_callI0 d_AL_init_1 mi_AL_1 (jx_ok_rm (by omega) (Nat.le_of_ble_eq_true rfl)) (Nat.le_of_ble_eq_true rfl) (jx_rmc (by omega)) (jx_rms (by omega)) (c_AC_init (d := 0) ?_)
  dsimp only [Option.toList, List.cons_append, List.nil_append]
  refine jx_aload_n (i := 0) d_AL_init_4 rfl rfl ?_
  refine jx_iconst (v := 0) d_AL_init_5 (by decide) ?_
  refine jx_putf d_AL_init_6 pf_AL_7 h (Nat.le_of_ble_eq_true rfl) rfl rfl ?_
  exact jx_vret d_AL_init_9 rfl (by omega) (by omega) k
theorem c_A_init (hd : 1 < d) (h : M a = some (.inl (6, [.int 0, .null, .int 0]))) (k : Z none (jx_up M a (kf_A 0 (jx_ea G) 0)) sz) : jx_Cr md_A_init G d [.ref a] M sz 0 0 Z := by
  refine jx_ent rfl (Nat.le_of_ble_eq_true rfl) (l := [some (.ref a)]) (by simp [jx_le, jx_eas, Value.category]) (fun hlt => ?_)
  refine jx_aload_n (i := 0) d_A_init_0 rfl rfl ?_
  refine jx_callI0 d_A_init_1 mi_A_1 (jx_ok_rm (by omega) (Nat.le_of_ble_eq_true rfl)) (Nat.le_of_ble_eq_true rfl) (jx_rmc (by omega)) (jx_rms (by omega)) (c_AL_init (d := 1) (by omega) h ?_)
  dsimp only [Option.toList, List.cons_append, List.nil_append]
  refine jx_aload_n (i := 0) d_A_init_4 rfl rfl ?_
  refine jx_gets0 d_A_init_5 (jx_mem 42 (by decide +kernel) rfl) ?_
  refine jx_putf d_A_init_8 pf_A_9 (jx_up_s _ _ _) (Nat.le_of_ble_eq_true rfl) rfl rfl ?_
  exact jx_vret d_A_init_11 rfl (by omega) (by omega) (by simp only [jx_up_u]; exact k)
theorem c_A_size (h : M a = some (kf_A mo ar n)) (k : Z (some (.int (nI n))) M sz) : jx_Cr md_A_size G d [.ref a] M sz 0 0 Z := by
  refine jx_ent rfl (Nat.le_of_ble_eq_true rfl) (l := [some (.ref a)]) (by simp [jx_le, jx_eas, Value.category]) (fun hlt => ?_)
  refine jx_aload_n (i := 0) d_A_size_0 rfl rfl ?_
  refine jx_getf d_A_size_1 gf_A_48 h rfl ?_
  exact jx_iret d_A_size_4 rfl (by omega) (by omega) k
theorem c_A_isEmpty (hn : n < 2 ^ 31) (h : M a = some (kf_A mo ar n)) (k : Z (some (.int (kf_b (decide (n = 0))))) M sz) : jx_Cr md_A_isEmpty G d [.ref a] M sz 0 0 Z := by
  refine jx_ent rfl (Nat.le_of_ble_eq_true rfl) (l := [some (.ref a)]) (by simp [jx_le, jx_eas, Value.category]) (fun hlt => ?_)
  refine jx_aload_n (i := 0) d_A_isEmpty_0 rfl rfl ?_
  refine jx_getf d_A_isEmpty_1 gf_A_48 h rfl ?_
  refine jx_if_ne (tgt := 11) d_A_isEmpty_4 (by decide) (fun c4 => ?_) (fun c4 => ?_)
  · refine jx_iconst (v := 0) d_A_isEmpty_11 (by decide) ?_
    exact jx_zret d_A_isEmpty_12 rfl (by first | exact Or.inl rfl | exact Or.inr rfl) (by omega) (by omega) (by rw [show decide (n = 0) = false from decide_eq_false (fun q => c4 (by rw [q]; rfl))] at k; exact k)
  · refine jx_iconst (v := 1) d_A_isEmpty_7 (by decide) ?_
    refine jx_goto (tgt := 12) d_A_isEmpty_8 (by decide) ?_
    exact jx_zret d_A_isEmpty_12 rfl (by first | exact Or.inl rfl | exact Or.inr rfl) (by omega) (by omega) (by
      rw [show decide (n = 0) = true from decide_eq_true ((nI_eq (b := 0) (by omega) (by omega)).mp c4)] at k
      exact k)
theorem c_PC_checkIndex {i : Nat} (hi : i < n) (hn : n < 2 ^ 31) (k : Z (some (.int (nI i))) M sz) : jx_Cr md_PC_checkIndex G d [.int (nI i), .int (nI n), .null] M sz 0 0 Z := by
  refine jx_ent rfl (Nat.le_of_ble_eq_true rfl) (l := [some (.int (nI i)), some (.int (nI n)), some .null]) (by simp [jx_le, jx_eas, Value.category]) (fun hlt => ?_)
  refine jx_iload_n (i := 0) d_PC_checkIndex_0 rfl rfl ?_
  refine jx_if_lt (tgt := 9) d_PC_checkIndex_1 (by decide) (fun c1 => ?_) (fun c1 => ?_)
  · exact absurd c1 (nI_pos (by omega))
  · refine jx_iload_n (i := 0) d_PC_checkIndex_4 rfl rfl ?_
    refine jx_iload_n (i := 1) d_PC_checkIndex_5 rfl rfl ?_
    refine jx_icmp_lt (tgt := 16) d_PC_checkIndex_6 (by decide) (fun c6 => ?_) (fun c6 => ?_)
    · refine jx_iload_n (i := 0) d_PC_checkIndex_16 rfl rfl ?_
      exact jx_iret d_PC_checkIndex_17 rfl (by omega) (by omega) k
    · exact absurd (nI_lt hi hn) c6
theorem c_OB_checkIndex {i : Nat} (hd : 0 < d) (hi : i < n) (hn : n < 2 ^ 31) (k : Z (some (.int (nI i))) M sz) : jx_Cr md_OB_checkIndex G d [.int (nI i), .int (nI n)] M sz 0 0 Z := by
  refine jx_ent rfl (Nat.le_of_ble_eq_true rfl) (l := [some (.int (nI i)), some (.int (nI n))]) (by simp [jx_le, jx_eas, Value.category]) (fun hlt => ?_)
  refine jx_iload_n (i := 0) d_OB_checkIndex_0 rfl rfl ?_
  refine jx_iload_n (i := 1) d_OB_checkIndex_1 rfl rfl ?_
  refine jx_null d_OB_checkIndex_2 ?_
  refine jx_callS3 d_OB_checkIndex_3 ms_OB_105 (jx_ok_rm (by omega) (Nat.le_of_ble_eq_true rfl)) (Nat.le_of_ble_eq_true rfl) (jx_rmc (by omega)) (jx_rms (by omega)) (c_PC_checkIndex (d := 0) hi hn ?_)
  dsimp only [Option.toList, List.cons_append, List.nil_append]
  exact jx_iret d_OB_checkIndex_6 rfl (by omega) (by omega) k
theorem c_A_elementData {i N v : Nat} {f : Nat → Option Nat} (hi : i < N) (hN : N < 2 ^ 31) (h : M a = some (kf_A mo ar n)) (hf : M ar = some (kf_oa N f)) (hv : f i = some v) (k : Z (some (.ref v)) M sz) : jx_Cr md_A_elementData G d [.ref a, .int (nI i)] M sz 0 0 Z := by
  refine jx_ent rfl (Nat.le_of_ble_eq_true rfl) (l := [some (.ref a), some (.int (nI i))]) (by simp [jx_le, jx_eas, Value.category]) (fun hlt => ?_)
  refine jx_aload_n (i := 0) d_A_elementData_0 rfl rfl ?_
  refine jx_getf d_A_elementData_1 gf_A_9 h rfl ?_
  refine jx_iload_n (i := 1) d_A_elementData_4 rfl rfl ?_
  refine jx_aald (t0 := 2) d_A_elementData_5 hf rfl (vp_in_nI hi hN) ?_
  rw [nI_clamp (by omega), hv]
  exact jx_aret (a := v) d_A_elementData_6 rfl (Or.inl ⟨_, rfl⟩) (by omega) (by omega) k
theorem c_A_get {i N v : Nat} {f : Nat → Option Nat} (hd : 1 < d) (hi : i < n) (hn : n ≤ N) (hN : N < 2 ^ 31) (h : M a = some (kf_A mo ar n)) (hf : M ar = some (kf_oa N f)) (hv : f i = some v) (k : Z (some (.ref v)) M sz) : jx_Cr md_A_get G d [.ref a, .int (nI i)] M sz 0 0 Z := by
  refine jx_ent rfl (Nat.le_of_ble_eq_true rfl) (l := [some (.ref a), some (.int (nI i))]) (by simp [jx_le, jx_eas, Value.category]) (fun hlt => ?_)
  refine jx_iload_n (i := 1) d_A_get_0 rfl rfl ?_
  refine jx_aload_n (i := 0) d_A_get_1 rfl rfl ?_
  refine jx_getf d_A_get_2 gf_A_48 h rfl ?_
  refine jx_callS2 d_A_get_5 ms_A_118 (jx_ok_rm (by omega) (Nat.le_of_ble_eq_true rfl)) (Nat.le_of_ble_eq_true rfl) (jx_rmc (by omega)) (jx_rms (by omega)) (c_OB_checkIndex (d := 1) (by omega) hi (by omega) ?_)
  dsimp only [Option.toList, List.cons_append, List.nil_append]
  refine jx_pop d_A_get_8 rfl ?_
  refine jx_aload_n (i := 0) d_A_get_9 rfl rfl ?_
  refine jx_iload_n (i := 1) d_A_get_10 rfl rfl ?_
  refine jx_callV1 d_A_get_11 mv_A_123 h rfl (jx_ok_rm (by omega) (Nat.le_of_ble_eq_true rfl)) (Nat.le_of_ble_eq_true rfl) (jx_rmc (by omega)) (jx_rms (by omega)) (c_A_elementData (d := 0) (by omega) hN h hf hv ?_)
  dsimp only [Option.toList, List.cons_append, List.nil_append]
  exact jx_aret d_A_get_14 rfl (Or.inl ⟨_, rfl⟩) (by omega) (by omega) k
theorem c_AS_newLength {o g p : Nat} (hd : 0 < d) (h0 : 0 < o + max g p) (ho : o < 1000) (hg : g < 1000) (hp : p < 1000) (k : Z (some (.int (nI (o + max g p)))) M sz) : jx_Cr md_AS_newLength G d [.int (nI o), .int (nI g), .int (nI p)] M sz 0 0 Z := by
  refine jx_ent rfl (Nat.le_of_ble_eq_true rfl) (l := [some (.int (nI o)), some (.int (nI g)), some (.int (nI p)), none]) (by simp [jx_le, jx_eas, Value.category]) (fun hlt => ?_)
  refine jx_iload_n (i := 0) d_AS_newLength_0 rfl rfl ?_
  refine jx_iload_n (i := 1) d_AS_newLength_1 rfl rfl ?_
  refine jx_iload_n (i := 2) d_AS_newLength_2 rfl rfl ?_
  refine jx_mmax d_AS_newLength_3 ms_AS_194.1.1 (Nat.succ_le_succ (Nat.zero_le _)) (jx_rmm (Nat.le_of_ble_eq_true rfl)) (jx_rmc (by omega)) (jx_rms (by omega)) ?_
  have e : (if nI g < nI p then nI p else nI g) = nI (max g p) := by
    by_cases q : g < p
    · rw [if_pos (nI_lt q (by omega)), Nat.max_eq_right (by omega)]
    · rw [if_neg (nI_nlt (by omega) (by omega)), Nat.max_eq_left (by omega)]
  rw [e]
  refine jx_iadd d_AS_newLength_6 ?_
  rw [nI_add]
  refine jx_istore_n (i := 3) d_AS_newLength_7 rfl (Nat.le_of_ble_eq_true rfl) (jx_e4_3 (by trivial)) ?_
  refine jx_iconst (v := 0) d_AS_newLength_8 (by decide) ?_
  refine jx_iload_n (i := 3) d_AS_newLength_9 rfl rfl ?_
  refine jx_icmp_ge (tgt := 21) d_AS_newLength_10 (by decide) (fun c10 => ?_) (fun c10 => ?_)
  · exact absurd c10 (fun q => by have := (nI_leI (b := 0) (by omega) (by omega)).mp q; omega)
  · refine jx_iload_n (i := 3) d_AS_newLength_13 rfl rfl ?_
    refine jx_ldc d_AS_newLength_14 rfl nv_AS_200 ?_
    refine jx_icmp_gt (tgt := 21) d_AS_newLength_16 (by decide) (fun c16 => ?_) (fun c16 => ?_)
    · exact absurd c16 (fun q => by have := (nI_ltI (a := 2147483639) (by omega) (by omega)).mp q; omega)
    · refine jx_iload_n (i := 3) d_AS_newLength_19 rfl rfl ?_
      exact jx_iret d_AS_newLength_20 rfl (by omega) (by omega) k
end CA
end
section
/-! PART 15: ArrayList.add and what it calls -/
theorem i_max {g p : Nat} (hg : g < 2 ^ 31) (hp : p < 2 ^ 31) : (if nI g < nI p then nI p else nI g) = nI (max g p) := by
  by_cases q : g < p
  · rw [if_pos (nI_lt q (by omega)), Nat.max_eq_right (by omega)]
  · rw [if_neg (nI_nlt (by omega) (by omega)), Nat.max_eq_left (by omega)]
theorem i_min {g p : Nat} (hg : g < 2 ^ 31) (hp : p < 2 ^ 31) : (if nI p < nI g then nI p else nI g) = nI (min g p) := by
  by_cases q : p < g
  · rw [if_pos (nI_lt q (by omega)), Nat.min_eq_right (by omega)]
  · rw [if_neg (nI_nlt (by omega) (by omega)), Nat.min_eq_left (by omega)]
section CA2
variable {G : jx_G} {d a ar sz n N v k : Nat} {mo : Int32} {f : Nat → Option Nat} {fs : List Value} {C0 : String} {T : u_T} {NN : Nat} {M : jx_H} {Z : Option Value → jx_H → Nat → Prop}
theorem c_AR_copyOf2 {N1 : Nat} (hd : 0 < d) (hN : N ≤ N1) (h1000 : N1 < 1000) (hf : M ar = some (kf_oa N f)) (hk : vwCl[k]? = some (C0, T, NN)) (hc : Cond.castable C0 "java/lang/Object" ∈ jx_nb) (hel : ∀ i, i < N → ∀ z, f i = some z → ∃ fs, M z = some (.inl (k, fs))) (kk : Z (some (.ref sz)) (jx_up M sz (kf_oa N1 (va_cpy f (fun _ => none) 0 0 N))) (sz + 1)) : jx_Cr md_AR_copyOf2 G d [.ref ar, .int (nI N1), .ref (jx_mi G)] M sz 1 N1 Z := by
  refine jx_ent rfl (Nat.le_of_ble_eq_true rfl) (l := [some (.ref ar), some (.int (nI N1)), some (.ref (jx_mi G)), none]) (by simp [jx_le, jx_eas, Value.category]) (fun hlt => ?_)
  have hne : ar ≠ sz := Nat.ne_of_lt (hlt ar _ hf)
  refine jx_aload_n (i := 2) d_AR_copyOf2_0 rfl rfl ?_
  refine jx_ldcM d_AR_copyOf2_1 (jx_mem 326 (by decide +kernel) rfl) ?_
  refine jx_acmp_ne (rx := some (jx_mi G)) (rz := some (jx_mi G)) (tgt := 13) d_AR_copyOf2_3 (by decide) (fun c => absurd rfl c) (fun _ => ?_)
  refine jx_iload_n (i := 1) d_AR_copyOf2_6 rfl rfl ?_
  refine jx_anew (N := N1) d_AR_copyOf2_7 (by decide +kernel) (jx_nbm 327 (by decide +kernel) rfl) (nI_pos (by omega)) (nI_clamp (by omega)) (by omega) (jx_rmc (by omega)) (jx_rms (by omega)) (fun hno => ?_)
  have hf2 : jx_up M sz (kf_oa N1 fun _ => none) ar = some (kf_oa N f) := (jx_up_n _ _ hne).trans hf
  refine jx_goto (tgt := 24) d_AR_copyOf2_10 (by decide) ?_
  refine jx_astore_n (i := 3) d_AR_copyOf2_24 rfl (Nat.le_of_ble_eq_true rfl) (jx_e4_3 (by trivial)) ?_
  refine jx_aload_n (i := 0) d_AR_copyOf2_25 rfl rfl ?_
  refine jx_iconst (v := 0) d_AR_copyOf2_26 (by decide) ?_
  refine jx_aload_n (i := 3) d_AR_copyOf2_27 rfl rfl ?_
  refine jx_iconst (v := 0) d_AR_copyOf2_28 (by decide) ?_
  refine jx_aload_n (i := 0) d_AR_copyOf2_29 rfl rfl ?_
  refine jx_alen (t0 := 2) d_AR_copyOf2_30 hf2 rfl ?_
  refine jx_iload_n (i := 1) d_AR_copyOf2_31 rfl rfl ?_
  refine jx_mmin d_AR_copyOf2_32 ms_AR_304.1.1 (Nat.succ_le_succ (Nat.zero_le _)) (jx_rmm (Nat.le_of_ble_eq_true rfl)) (jx_rmc (by omega)) (jx_rms (by omega)) ?_
  rw [i_min (by omega) (by omega), Nat.min_eq_left hN]
  refine jx_copyq (k := k) (C0 := C0) (n0 := N) (n1 := N1) d_AR_copyOf2_35 (jx_mem 330 (by decide +kernel) rfl) hk hc hf2 (jx_up_s _ _ _) (by decide) (by decide) (nI_pos (by omega)) (by rw [nI_clamp (by omega)]; show 0 + N ≤ N; omega) (by rw [nI_clamp (by omega)]; show 0 + N ≤ N1; omega) ?_ (Nat.succ_le_succ (Nat.zero_le _)) (by
      have hw : nativeFrameWords "java/lang/System" "arraycopy" 5 + 11 ≤ 100 := by decide
      show 0 + _ ≤ 32 * d + 100
      omega) ?_
  · intro i hi z hz
    rw [nI_clamp (by omega)] at hi
    have hz' : f i = some z := by
      have e : (0 : Int32).toNatClampNeg + i = i := by
        have : (0 : Int32).toNatClampNeg = 0 := by decide
        omega
      rw [e] at hz
      exact hz
    obtain ⟨fs, hfs⟩ := hel i hi z hz'
    exact ⟨fs, (jx_up_n _ _ (Nat.ne_of_lt (hlt z _ hfs))).trans hfs⟩
  · rw [nI_clamp (by omega), jx_up_u, show (0 : Int32).toNatClampNeg = 0 by decide]
    refine jx_aload_n (i := 3) d_AR_copyOf2_38 rfl rfl ?_
    exact jx_aret d_AR_copyOf2_39 rfl (Or.inr ⟨_, rfl⟩) (by omega) (by omega) kk
theorem c_AR_copyOf {N1 : Nat} (hd : 1 < d) (hN : N ≤ N1) (h1000 : N1 < 1000) (hf : M ar = some (kf_oa N f)) (hk : vwCl[k]? = some (C0, T, NN)) (hc : Cond.castable C0 "java/lang/Object" ∈ jx_nb) (hel : ∀ i, i < N → ∀ z, f i = some z → ∃ fs, M z = some (.inl (k, fs))) (kk : Z (some (.ref sz)) (jx_up M sz (kf_oa N1 (va_cpy f (fun _ => none) 0 0 N))) (sz + 1)) : jx_Cr md_AR_copyOf G d [.ref ar, .int (nI N1)] M sz 1 N1 Z := by
  refine jx_ent rfl (Nat.le_of_ble_eq_true rfl) (l := [some (.ref ar), some (.int (nI N1))]) (by simp [jx_le, jx_eas, Value.category]) (fun hlt => ?_)
  refine jx_aload_n (i := 0) d_AR_copyOf_0 rfl rfl ?_
  refine jx_iload_n (i := 1) d_AR_copyOf_1 rfl rfl ?_
  refine jx_aload_n (i := 0) d_AR_copyOf_2 rfl rfl ?_
  refine jx_getC d_AR_copyOf_3 (jx_mem 309 (by decide +kernel) rfl) hf (Nat.succ_le_succ (Nat.zero_le _)) (by show 1 + (1 + 0) + 14 ≤ 32 * d + 100; omega) ?_
  refine jx_callS3 d_AR_copyOf_6 ms_AR_300 (jx_ok_rm (by omega) (Nat.le_of_ble_eq_true rfl)) (Nat.le_of_ble_eq_true rfl) (jx_rmc (by omega)) (jx_rms (by omega)) (c_AR_copyOf2 (d := 1) (by omega) hN h1000 hf hk hc hel ?_)
  dsimp only [Option.toList, List.cons_append, List.nil_append]
  exact jx_aret d_AR_copyOf_9 rfl (Or.inr ⟨_, rfl⟩) (by omega) (by omega) kk
/-- the first of all: ten places are made -/
theorem c_A_grow2_first (hd : 0 < d) (h : M a = some (kf_A mo (jx_ea G) 0)) (kk : Z (some (.ref sz)) (jx_up (jx_up M sz (kf_oa 10 (fun _ => none))) a (kf_A mo sz 0)) (sz + 1)) : jx_Cr md_A_grow2 G d [.ref a, .int (nI 1)] M sz 1 10 Z := by
  refine jx_ent rfl (Nat.le_of_ble_eq_true rfl) (l := [some (.ref a), some (.int (nI 1)), none, none]) (by simp [jx_le, jx_eas, Value.category]) (fun hlt => ?_)
  have hne : a ≠ sz := Nat.ne_of_lt (hlt a _ h)
  refine jx_aload_n (i := 0) d_A_grow2_0 rfl rfl ?_
  refine jx_getf d_A_grow2_1 gf_A_9 h rfl ?_
  refine jx_tlen d_A_grow2_4 ?_
  refine jx_istore_n (i := 2) d_A_grow2_5 rfl (Nat.le_of_ble_eq_true rfl) (jx_e4_2 (by trivial)) ?_
  refine jx_iload_n (i := 2) d_A_grow2_6 rfl rfl ?_
  refine jx_if_gt (tgt := 20) d_A_grow2_7 (by decide) (fun c7 => ?_) (fun c7 => ?_)
  · exact absurd c7 (by decide)
  · refine jx_aload_n (i := 0) d_A_grow2_10 rfl rfl ?_
    refine jx_getf d_A_grow2_11 gf_A_9 h rfl ?_
    refine jx_gets0 d_A_grow2_14 (jx_mem 42 (by decide +kernel) rfl) ?_
    refine jx_acmp_eq (rx := some (jx_ea G)) (rz := some (jx_ea G)) (tgt := 45) d_A_grow2_17 (by decide) (fun _ => ?_) (fun c => absurd rfl c)
    refine jx_aload_n (i := 0) d_A_grow2_45 rfl rfl ?_
    refine jx_bipush (v := 10) d_A_grow2_46 (by decide) ?_
    refine jx_iload_n (i := 1) d_A_grow2_48 rfl rfl ?_
    refine jx_mmax d_A_grow2_49 ms_A_79.1.1 (Nat.succ_le_succ (Nat.zero_le _)) (jx_rmm (Nat.le_of_ble_eq_true rfl)) (jx_rmc (by omega)) (jx_rms (by omega)) ?_
    rw [show (if (10 : Int32) < nI 1 then nI 1 else (10 : Int32)) = nI 10 by decide]
    refine jx_anew (N := 10) d_A_grow2_52 (by decide +kernel) (jx_nbm 327 (by decide +kernel) rfl) (by decide) (by decide) (by decide) (jx_rmc (by omega)) (jx_rms (by omega)) (fun hno => ?_)
    refine jx_dup_x1 d_A_grow2_55 rfl rfl ?_
    refine jx_putf d_A_grow2_56 pf_A_9 ((jx_up_n _ _ hne).trans h) (Nat.le_of_ble_eq_true rfl) rfl rfl ?_
    exact jx_aret d_A_grow2_59 rfl (Or.inr ⟨_, rfl⟩) (by omega) (by omega) kk
/-- the array is full: n + max 1 (n / 2) places are made -/
theorem c_A_grow2_full (hd : 2 < d) (hN0 : 0 < N) (hN : N < 500) (h : M a = some (kf_A mo ar n)) (hf : M ar = some (kf_oa N f)) (hk : vwCl[k]? = some (C0, T, NN)) (hc : Cond.castable C0 "java/lang/Object" ∈ jx_nb) (hel : ∀ i, i < N → ∀ z, f i = some z → ∃ fs, M z = some (.inl (k, fs))) (kk : Z (some (.ref sz)) (jx_up (jx_up M sz (kf_oa (N + max 1 (N / 2)) (va_cpy f (fun _ => none) 0 0 N))) a (kf_A mo sz n)) (sz + 1)) : jx_Cr md_A_grow2 G d [.ref a, .int (nI (N + 1))] M sz 1 (N + max 1 (N / 2)) Z := by
  refine jx_ent rfl (Nat.le_of_ble_eq_true rfl) (l := [some (.ref a), some (.int (nI (N + 1))), none, none]) (by simp [jx_le, jx_eas, Value.category]) (fun hlt => ?_)
  have hne : a ≠ sz := Nat.ne_of_lt (hlt a _ h)
  have hm : max 1 (N / 2) < 500 := by omega
  refine jx_aload_n (i := 0) d_A_grow2_0 rfl rfl ?_
  refine jx_getf d_A_grow2_1 gf_A_9 h rfl ?_
  refine jx_alen (t0 := 2) d_A_grow2_4 hf rfl ?_
  refine jx_istore_n (i := 2) d_A_grow2_5 rfl (Nat.le_of_ble_eq_true rfl) (jx_e4_2 (by trivial)) ?_
  refine jx_iload_n (i := 2) d_A_grow2_6 rfl rfl ?_
  refine jx_if_gt (tgt := 20) d_A_grow2_7 (by decide) (fun c7 => ?_) (fun c7 => ?_)
  · refine jx_iload_n (i := 2) d_A_grow2_20 rfl rfl ?_
    refine jx_iload_n (i := 1) d_A_grow2_21 rfl rfl ?_
    refine jx_iload_n (i := 2) d_A_grow2_22 rfl rfl ?_
    refine jx_isub d_A_grow2_23 ?_
    refine jx_iload_n (i := 2) d_A_grow2_24 rfl rfl ?_
    refine jx_iconst (v := 1) d_A_grow2_25 (by decide) ?_
    refine jx_ishr d_A_grow2_26 ?_
    rw [show nI (N + 1) - nI N = nI 1 by rw [pk_sub (by omega)]; congr 1; omega, show nI N >>> ((1 : Int32) &&& 31) = nI (N / 2) by
      have := pk_shrN (n := N) (by omega) ((1 : Int32) &&& 31) 1 (by decide)
      simpa using this]
    refine jx_callS3 d_A_grow2_27 ms_A_73 (jx_ok_rm (by omega) (Nat.le_of_ble_eq_true rfl)) (Nat.le_of_ble_eq_true rfl) (jx_rmc (by omega)) (jx_rms (by omega)) (c_AS_newLength (d := 1) (by omega) (by omega) (by omega) (by omega) (by omega) ?_)
    dsimp only [Option.toList, List.cons_append, List.nil_append]
    refine jx_istore_n (i := 3) d_A_grow2_30 rfl (Nat.le_of_ble_eq_true rfl) (jx_e4_3 (by trivial)) ?_
    refine jx_aload_n (i := 0) d_A_grow2_31 rfl rfl ?_
    refine jx_aload_n (i := 0) d_A_grow2_32 rfl rfl ?_
    refine jx_getf d_A_grow2_33 gf_A_9 h rfl ?_
    refine jx_iload_n (i := 3) d_A_grow2_36 rfl rfl ?_
    refine jx_callS2 d_A_grow2_37 ms_A_66 (jx_ok_rm (by omega) (Nat.le_of_ble_eq_true rfl)) (Nat.le_of_ble_eq_true rfl) (jx_rmc (by omega)) (jx_rms (by omega)) (c_AR_copyOf (d := 2) (by omega) (by omega) (by omega) hf hk hc hel ?_)
    dsimp only [Option.toList, List.cons_append, List.nil_append]
    refine jx_dup_x1 d_A_grow2_40 rfl rfl ?_
    refine jx_putf d_A_grow2_41 pf_A_9 ((jx_up_n _ _ hne).trans h) (Nat.le_of_ble_eq_true rfl) rfl rfl ?_
    exact jx_aret d_A_grow2_44 rfl (Or.inr ⟨_, rfl⟩) (by omega) (by omega) kk
  · exact absurd (nI_lt (a := 0) hN0 (by omega)) c7
theorem c_A_grow_first (hd : 1 < d) (h : M a = some (kf_A mo (jx_ea G) 0)) (kk : Z (some (.ref sz)) (jx_up (jx_up M sz (kf_oa 10 (fun _ => none))) a (kf_A mo sz 0)) (sz + 1)) : jx_Cr md_A_grow G d [.ref a] M sz 1 10 Z := by
  refine jx_ent rfl (Nat.le_of_ble_eq_true rfl) (l := [some (.ref a)]) (by simp [jx_le, jx_eas, Value.category]) (fun hlt => ?_)
  refine jx_aload_n (i := 0) d_A_grow_0 rfl rfl ?_
  refine jx_aload_n (i := 0) d_A_grow_1 rfl rfl ?_
  refine jx_getf d_A_grow_2 gf_A_48 h rfl ?_
  refine jx_iconst (v := 1) d_A_grow_5 (by decide) ?_
  refine jx_iadd d_A_grow_6 ?_
  refine jx_callV1 d_A_grow_7 mv_A_69 h rfl (jx_ok_rm (by omega) (Nat.le_of_ble_eq_true rfl)) (Nat.le_of_ble_eq_true rfl) (jx_rmc (by omega)) (jx_rms (by omega)) (c_A_grow2_first (d := 1) (by omega) h ?_)
  dsimp only [Option.toList, List.cons_append, List.nil_append]
  exact jx_aret d_A_grow_10 rfl (Or.inr ⟨_, rfl⟩) (by omega) (by omega) kk
theorem c_A_grow_full (hd : 3 < d) (hN0 : 0 < N) (hN : N < 500) (h : M a = some (kf_A mo ar N)) (hf : M ar = some (kf_oa N f)) (hk : vwCl[k]? = some (C0, T, NN)) (hc : Cond.castable C0 "java/lang/Object" ∈ jx_nb) (hel : ∀ i, i < N → ∀ z, f i = some z → ∃ fs, M z = some (.inl (k, fs))) (kk : Z (some (.ref sz)) (jx_up (jx_up M sz (kf_oa (N + max 1 (N / 2)) (va_cpy f (fun _ => none) 0 0 N))) a (kf_A mo sz N)) (sz + 1)) : jx_Cr md_A_grow G d [.ref a] M sz 1 (N + max 1 (N / 2)) Z := by
  refine jx_ent rfl (Nat.le_of_ble_eq_true rfl) (l := [some (.ref a)]) (by simp [jx_le, jx_eas, Value.category]) (fun hlt => ?_)
  refine jx_aload_n (i := 0) d_A_grow_0 rfl rfl ?_
  refine jx_aload_n (i := 0) d_A_grow_1 rfl rfl ?_
  refine jx_getf d_A_grow_2 gf_A_48 h rfl ?_
  refine jx_iconst (v := 1) d_A_grow_5 (by decide) ?_
  refine jx_iadd d_A_grow_6 ?_
  rw [nI_1]
  refine jx_callV1 d_A_grow_7 mv_A_69 h rfl (jx_ok_rm (by omega) (Nat.le_of_ble_eq_true rfl)) (Nat.le_of_ble_eq_true rfl) (jx_rmc (by omega)) (jx_rms (by omega)) (c_A_grow2_full (d := 3) (by omega) hN0 hN h hf hk hc hel ?_)
  dsimp only [Option.toList, List.cons_append, List.nil_append]
  exact jx_aret d_A_grow_10 rfl (Or.inr ⟨_, rfl⟩) (by omega) (by omega) kk
/-- a list of n objects of class number k, at the places el -/
def kf_L (G : jx_G) (M : jx_H) (k a ar n : Nat) (el : Nat → Nat) : Prop := (∃ mo, M a = some (kf_A mo ar n)) ∧ ((n = 0 ∧ ar = jx_ea G) ∨ ∃ (N : Nat) (f : Nat → Option Nat), M ar = some (kf_oa N f) ∧ 0 < N ∧ n ≤ N ∧ N < 100 ∧ (∀ i, i < n → f i = some (el i)) ∧ ∀ i, n ≤ i → i < N → f i = none)
end CA2
end
section
/-! PART 16: ArrayList.add -/
section CA3
variable {G : jx_G} {d a ar sz n N v k : Nat} {mo : Int32} {f : Nat → Option Nat} {fs : List Value} {C0 : String} {T : u_T} {NN : Nat} {M : jx_H} {Z : Option Value → jx_H → Nat → Prop}
theorem c_A_add2_room (hn : n < N) (hN : N < 1000) (h : M a = some (kf_A mo ar n)) (hf : M ar = some (kf_oa N f)) (hv : M v = some (.inl (k, fs))) (hk : vwCl[k]? = some (C0, T, NN)) (hc : Cond.castable C0 "java/lang/Object" ∈ jx_nb) (hne : a ≠ ar) (kk : Z none (jx_up (jx_up M ar (kf_oa N (va_up f n (some v)))) a (kf_A mo ar (n + 1))) sz) : jx_Cr md_A_add2 G d [.ref a, .ref v, .ref ar, .int (nI n)] M sz 0 0 Z := by
  refine jx_ent rfl (Nat.le_of_ble_eq_true rfl) (l := [some (.ref a), some (.ref v), some (.ref ar), some (.int (nI n))]) (by simp [jx_le, jx_eas, Value.category]) (fun hlt => ?_)
  refine jx_iload_n (i := 3) d_A_add2_0 rfl rfl ?_
  refine jx_aload_n (i := 2) d_A_add2_1 rfl rfl ?_
  refine jx_alen (t0 := 2) d_A_add2_2 hf rfl ?_
  refine jx_icmp_ne (tgt := 11) d_A_add2_3 (by decide) (fun c3 => ?_) (fun c3 => ?_)
  · refine jx_aload_n (i := 2) d_A_add2_11 rfl rfl ?_
    refine jx_iload_n (i := 3) d_A_add2_12 rfl rfl ?_
    refine jx_aload_n (i := 1) d_A_add2_13 rfl rfl ?_
    refine jx_aast d_A_add2_14 hf hv hk hc (vp_in_nI hn (by omega)) ?_
    rw [nI_clamp (by omega)]
    refine jx_aload_n (i := 0) d_A_add2_15 rfl rfl ?_
    refine jx_iload_n (i := 3) d_A_add2_16 rfl rfl ?_
    refine jx_iconst (v := 1) d_A_add2_17 (by decide) ?_
    refine jx_iadd d_A_add2_18 ?_
    rw [nI_1]
    refine jx_putf d_A_add2_19 pf_A_48 ((jx_up_n _ _ hne).trans h) (Nat.le_of_ble_eq_true rfl) rfl rfl ?_
    exact jx_vret d_A_add2_22 rfl (by omega) (by omega) kk
  · exact absurd ((nI_eq (by omega) (by omega)).mp c3) (by omega)
theorem c_A_add2_full (hd : 4 < d) (hN0 : 0 < n) (hN : n < 500) (h : M a = some (kf_A mo ar n)) (hf : M ar = some (kf_oa n f)) (hv : M v = some (.inl (k, fs))) (hk : vwCl[k]? = some (C0, T, NN)) (hc : Cond.castable C0 "java/lang/Object" ∈ jx_nb) (hel : ∀ i, i < n → ∀ z, f i = some z → ∃ fs, M z = some (.inl (k, fs))) (hva : v ≠ a) (kk : Z none (jx_up (jx_up M sz (kf_oa (n + max 1 (n / 2)) (va_up (va_cpy f (fun _ => none) 0 0 n) n (some v)))) a (kf_A mo sz (n + 1))) (sz + 1)) : jx_Cr md_A_add2 G d [.ref a, .ref v, .ref ar, .int (nI n)] M sz 1 (n + max 1 (n / 2)) Z := by
  refine jx_ent rfl (Nat.le_of_ble_eq_true rfl) (l := [some (.ref a), some (.ref v), some (.ref ar), some (.int (nI n))]) (by simp [jx_le, jx_eas, Value.category]) (fun hlt => ?_)
  have hne : a ≠ sz := Nat.ne_of_lt (hlt a _ h)
  have hvs : v ≠ sz := Nat.ne_of_lt (hlt v _ hv)
  have hm : max 1 (n / 2) < 500 := by omega
  refine jx_iload_n (i := 3) d_A_add2_0 rfl rfl ?_
  refine jx_aload_n (i := 2) d_A_add2_1 rfl rfl ?_
  refine jx_alen (t0 := 2) d_A_add2_2 hf rfl ?_
  refine jx_icmp_ne (tgt := 11) d_A_add2_3 (by decide) (fun c3 => ?_) (fun c3 => ?_)
  · exact absurd rfl c3
  · refine jx_aload_n (i := 0) d_A_add2_6 rfl rfl ?_
    refine jx_callV0 d_A_add2_7 mv_A_129 h rfl (jx_ok_rm (by omega) (Nat.le_of_ble_eq_true rfl)) (Nat.le_of_ble_eq_true rfl) (jx_rmc (by omega)) (jx_rms (by omega)) (c_A_grow_full (d := 4) (by omega) hN0 hN h hf hk hc hel ?_)
    dsimp only [Option.toList, List.cons_append, List.nil_append]
    refine jx_astore_n (i := 2) d_A_add2_10 rfl (Nat.le_of_ble_eq_true rfl) (jx_e4_2 (by trivial)) ?_
    refine jx_aload_n (i := 2) d_A_add2_11 rfl rfl ?_
    refine jx_iload_n (i := 3) d_A_add2_12 rfl rfl ?_
    refine jx_aload_n (i := 1) d_A_add2_13 rfl rfl ?_
    refine jx_aast (n := n + max 1 (n / 2)) (f := va_cpy f (fun _ => none) 0 0 n) (k := k) (fs := fs) d_A_add2_14 ((jx_up_n _ _ (Ne.symm hne)).trans (jx_up_s _ _ _)) ((jx_up_n _ _ hva).trans ((jx_up_n _ _ hvs).trans hv)) hk hc (vp_in_nI (by omega) (by omega)) ?_
    rw [nI_clamp (by omega), jx_up_c _ _ _ hne, jx_up_u]
    refine jx_aload_n (i := 0) d_A_add2_15 rfl rfl ?_
    refine jx_iload_n (i := 3) d_A_add2_16 rfl rfl ?_
    refine jx_iconst (v := 1) d_A_add2_17 (by decide) ?_
    refine jx_iadd d_A_add2_18 ?_
    rw [nI_1]
    refine jx_putf d_A_add2_19 pf_A_48 (jx_up_s _ _ _) (Nat.le_of_ble_eq_true rfl) rfl rfl ?_
    exact jx_vret d_A_add2_22 rfl (by omega) (by omega) (by rw [jx_up_u]; exact kk)
theorem c_A_add2_first (hd : 2 < d) (h : M a = some (kf_A mo (jx_ea G) 0)) (hv : M v = some (.inl (k, fs))) (hk : vwCl[k]? = some (C0, T, NN)) (hc : Cond.castable C0 "java/lang/Object" ∈ jx_nb) (hva : v ≠ a) (kk : Z none (jx_up (jx_up M sz (kf_oa 10 (va_up (fun _ => none) 0 (some v)))) a (kf_A mo sz 1)) (sz + 1)) : jx_Cr md_A_add2 G d [.ref a, .ref v, .ref (jx_ea G), .int (nI 0)] M sz 1 10 Z := by
  refine jx_ent rfl (Nat.le_of_ble_eq_true rfl) (l := [some (.ref a), some (.ref v), some (.ref (jx_ea G)), some (.int (nI 0))]) (by simp [jx_le, jx_eas, Value.category]) (fun hlt => ?_)
  have hne : a ≠ sz := Nat.ne_of_lt (hlt a _ h)
  have hvs : v ≠ sz := Nat.ne_of_lt (hlt v _ hv)
  refine jx_iload_n (i := 3) d_A_add2_0 rfl rfl ?_
  refine jx_aload_n (i := 2) d_A_add2_1 rfl rfl ?_
  refine jx_tlen d_A_add2_2 ?_
  refine jx_icmp_ne (tgt := 11) d_A_add2_3 (by decide) (fun c3 => ?_) (fun c3 => ?_)
  · exact absurd rfl c3
  · refine jx_aload_n (i := 0) d_A_add2_6 rfl rfl ?_
    refine jx_callV0 d_A_add2_7 mv_A_129 h rfl (jx_ok_rm (by omega) (Nat.le_of_ble_eq_true rfl)) (Nat.le_of_ble_eq_true rfl) (jx_rmc (by omega)) (jx_rms (by omega)) (c_A_grow_first (d := 2) (by omega) h ?_)
    dsimp only [Option.toList, List.cons_append, List.nil_append]
    refine jx_astore_n (i := 2) d_A_add2_10 rfl (Nat.le_of_ble_eq_true rfl) (jx_e4_2 (by trivial)) ?_
    refine jx_aload_n (i := 2) d_A_add2_11 rfl rfl ?_
    refine jx_iload_n (i := 3) d_A_add2_12 rfl rfl ?_
    refine jx_aload_n (i := 1) d_A_add2_13 rfl rfl ?_
    refine jx_aast (n := 10) (f := fun _ => none) (k := k) (fs := fs) d_A_add2_14 ((jx_up_n _ _ (Ne.symm hne)).trans (jx_up_s _ _ _)) ((jx_up_n _ _ hva).trans ((jx_up_n _ _ hvs).trans hv)) hk hc (by unfold vp_in; decide) ?_
    rw [nI_clamp (by omega), jx_up_c _ _ _ hne, jx_up_u]
    refine jx_aload_n (i := 0) d_A_add2_15 rfl rfl ?_
    refine jx_iload_n (i := 3) d_A_add2_16 rfl rfl ?_
    refine jx_iconst (v := 1) d_A_add2_17 (by decide) ?_
    refine jx_iadd d_A_add2_18 ?_
    rw [nI_1]
    refine jx_putf d_A_add2_19 pf_A_48 (jx_up_s _ _ _) (Nat.le_of_ble_eq_true rfl) rfl rfl ?_
    exact jx_vret d_A_add2_22 rfl (by omega) (by omega) (by rw [jx_up_u]; exact kk)
theorem c_A_add {el : Nat → Nat} (hd : 5 < d) (hn : n ≤ 30) (hL : kf_L G M k a ar n el) (hv : M v = some (.inl (k, fs))) (hk : vwCl[k]? = some (C0, T, NN)) (hk6 : k ≠ 6) (hc : Cond.castable C0 "java/lang/Object" ∈ jx_nb) (hel : ∀ i, i < n → ∃ fs, M (el i) = some (.inl (k, fs)))
    (kk : ∀ M' sz' ar', kf_L G M' k a ar' (n + 1) (va_up el n v) → (∀ q, q ≠ a → q ≠ ar → q < sz → M' q = M q) → (ar' = ar ∨ ar' = sz) → sz ≤ sz' → sz' ≤ sz + 1 → (∀ q e, M' q = some e → q < sz') → Z (some (.int 1)) M' sz') : jx_Cr md_A_add G d [.ref a, .ref v] M sz 1 45 Z := by
  refine jx_ent rfl (Nat.le_of_ble_eq_true rfl) (l := [some (.ref a), some (.ref v)]) (by simp [jx_le, jx_eas, Value.category]) (fun hlt => ?_)
  obtain ⟨⟨mo, h⟩, hL⟩ := hL
  have hne : a ≠ sz := Nat.ne_of_lt (hlt a _ h)
  have hvs : v ≠ sz := Nat.ne_of_lt (hlt v _ hv)
  have hva : v ≠ a := by
    intro q
    rw [q, h] at hv
    simp at hv
    exact hk6 hv.1.symm
  refine jx_aload_n (i := 0) d_A_add_0 rfl rfl ?_
  refine jx_dup d_A_add_1 rfl ?_
  refine jx_getf d_A_add_2 gf_A_63 h rfl ?_
  refine jx_iconst (v := 1) d_A_add_5 (by decide) ?_
  refine jx_iadd d_A_add_6 ?_
  refine jx_putf d_A_add_7 pf_A_63 h (Nat.le_of_ble_eq_true rfl) rfl rfl ?_
  refine jx_aload_n (i := 0) d_A_add_10 rfl rfl ?_
  refine jx_aload_n (i := 1) d_A_add_11 rfl rfl ?_
  refine jx_aload_n (i := 0) d_A_add_12 rfl rfl ?_
  refine jx_getf d_A_add_13 gf_A_9 (jx_up_s _ _ _) rfl ?_
  refine jx_aload_n (i := 0) d_A_add_16 rfl rfl ?_
  refine jx_getf d_A_add_17 gf_A_48 (jx_up_s _ _ _) rfl ?_
  have h1 : jx_up M a (kf_A (mo + 1) ar n) a = some (kf_A (mo + 1) ar n) := jx_up_s _ _ _
  have hv1 : jx_up M a (kf_A (mo + 1) ar n) v = some (.inl (k, fs)) := (jx_up_n _ _ hva).trans hv
  rcases hL with ⟨rfl, rfl⟩ | ⟨N, f, hf, hN0, hnN, hN100, hfe, hfn⟩
  · refine jx_callV3 d_A_add_20 mv_A_131 h1 rfl (jx_ok_rm (by omega) (Nat.le_of_ble_eq_true rfl)) (Nat.le_of_ble_eq_true rfl) (jx_rmc (by omega)) (jx_rms (by omega)) (c_A_add2_first (d := 5) (by omega) h1 hv1 hk hc hva ?_)
    dsimp only [Option.toList, List.cons_append, List.nil_append]
    refine jx_wi (kc' := 1) (ks' := 45) (by omega) (by omega) ?_
    refine jx_iconst (v := 1) d_A_add_23 (by decide) ?_
    exact jx_zret d_A_add_24 rfl (by first | exact Or.inl rfl | exact Or.inr rfl) (by omega) (by omega) (by
      refine kk _ (sz + 1) sz ⟨⟨mo + 1, jx_up_s _ _ _⟩, Or.inr ⟨10, _, (jx_up_n _ _ (Ne.symm hne)).trans (jx_up_s _ _ _), by omega, by omega, by omega, ?_, ?_⟩⟩ ?_ (Or.inr rfl) (by omega) (by omega) ?_
      · intro i hi
        have : i = 0 := by omega
        subst this
        simp [va_up]
      · intro i hi hi2
        simp [va_up, show i ≠ 0 by omega]
      · intro q q1 q2 q3
        rw [jx_up_n _ _ q1, jx_up_n _ _ (by omega), jx_up_n _ _ q1]
      · intro q e hq
        by_cases q1 : q = a
        · subst q1
          have := hlt q _ h
          omega
        · rw [jx_up_n _ _ q1] at hq
          by_cases q2 : q = sz
          · omega
          · rw [jx_up_n _ _ q2, jx_up_n _ _ q1] at hq
            have := hlt q e hq
            omega)
  · have har : ar ≠ a := by
      intro q
      rw [q, h] at hf
      simp at hf
    have hars : ar ≠ sz := Nat.ne_of_lt (hlt ar _ hf)
    have hf1 : jx_up M a (kf_A (mo + 1) ar n) ar = some (kf_oa N f) := (jx_up_n _ _ har).trans hf
    rcases Nat.lt_or_ge n N with hlN | hgN
    · refine jx_callV3 d_A_add_20 mv_A_131 h1 rfl (jx_ok_rm (by omega) (Nat.le_of_ble_eq_true rfl)) (Nat.le_of_ble_eq_true rfl) (jx_rmc (by omega)) (jx_rms (by omega)) (c_A_add2_room (d := 5) hlN (by omega) h1 hf1 hv1 hk hc (Ne.symm har) ?_)
      dsimp only [Option.toList, List.cons_append, List.nil_append]
      refine jx_wi (kc' := 1) (ks' := 45) (by omega) (by omega) ?_
      refine jx_iconst (v := 1) d_A_add_23 (by decide) ?_
      exact jx_zret d_A_add_24 rfl (by first | exact Or.inl rfl | exact Or.inr rfl) (by omega) (by omega) (by
        refine kk _ sz ar ⟨⟨mo + 1, jx_up_s _ _ _⟩, Or.inr ⟨N, _, (jx_up_n _ _ har).trans (jx_up_s _ _ _), by omega, by omega, by omega, ?_, ?_⟩⟩ ?_ (Or.inl rfl) (by omega) (by omega) ?_
        · intro i hi
          by_cases e : i = n
          · simp [va_up, e]
          · simp [va_up, e, hfe i (by omega)]
        · intro i hi hi2
          simp [va_up, show i ≠ n by omega, hfn i (by omega) hi2]
        · intro q q1 q2 q3
          rw [jx_up_n _ _ q1, jx_up_n _ _ q2, jx_up_n _ _ q1]
        · intro q e hq
          by_cases q1 : q = a
          · subst q1
            exact hlt q _ h
          · rw [jx_up_n _ _ q1] at hq
            by_cases q2 : q = ar
            · subst q2
              exact hlt q _ hf
            · rw [jx_up_n _ _ q2, jx_up_n _ _ q1] at hq
              exact hlt q e hq)
    · have eN : N = n := by omega
      subst eN
      have hel1 : ∀ i, i < N → ∀ z, f i = some z → ∃ fs, jx_up M a (kf_A (mo + 1) ar N) z = some (.inl (k, fs)) := by
        intro i hi z hz
        rw [hfe i hi] at hz
        cases hz
        obtain ⟨fs, hfs⟩ := hel i hi
        refine ⟨fs, (jx_up_n _ _ ?_).trans hfs⟩
        intro q
        rw [q, h] at hfs
        simp at hfs
        exact hk6 hfs.1.symm
      refine jx_callV3 d_A_add_20 mv_A_131 h1 rfl (jx_ok_rm (by omega) (Nat.le_of_ble_eq_true rfl)) (Nat.le_of_ble_eq_true rfl) (jx_rmc (by omega)) (jx_rms (by omega)) (c_A_add2_full (d := 5) (by omega) hN0 (by omega) h1 hf1 hv1 hk hc hel1 hva ?_)
      dsimp only [Option.toList, List.cons_append, List.nil_append]
      refine jx_wi (kc' := 1) (ks' := 45) (by omega) (by omega) ?_
      refine jx_iconst (v := 1) d_A_add_23 (by decide) ?_
      exact jx_zret d_A_add_24 rfl (by first | exact Or.inl rfl | exact Or.inr rfl) (by omega) (by omega) (by
        refine kk _ (sz + 1) sz ⟨⟨mo + 1, jx_up_s _ _ _⟩, Or.inr ⟨N + max 1 (N / 2), _, (jx_up_n _ _ (Ne.symm hne)).trans (jx_up_s _ _ _), by omega, by omega, by omega, ?_, ?_⟩⟩ ?_ (Or.inr rfl) (by omega) (by omega) ?_
        · intro i hi
          by_cases e : i = N
          · simp [va_up, e]
          · simp [va_up, va_cpy, e, show i < N by omega, hfe i (by omega)]
        · intro i hi hi2
          simp [va_up, va_cpy, show i ≠ N by omega, show ¬ i < N by omega]
        · intro q q1 q2 q3
          rw [jx_up_n _ _ q1, jx_up_n _ _ (by omega), jx_up_n _ _ q1]
        · intro q e hq
          by_cases q1 : q = a
          · subst q1
            have := hlt q _ h
            omega
          · rw [jx_up_n _ _ q1] at hq
            by_cases q2 : q = sz
            · omega
            · rw [jx_up_n _ _ q2, jx_up_n _ _ q1] at hq
              have := hlt q e hq
              omega)
end CA3
end
section
/-! PART 17: KeyRows, what is read -/
/-- a KeyRows: name, times, values, states, count, work, the folds' list -/
abbrev kf_R (nm : Int64) (ta va sa n : Nat) (wk : Int32) (fl : Nat) : jx_E := .inl (1, [.long nm, .ref ta, .ref va, .ref sa, .int (nI n), .int wk, .ref fl])
/-- the step with row i -/
def sp_sa (kn : Nat) (p : Int64) (tm vl : Nat → Int64) (i : Nat) (s : Int64) : Int64 := sp_st kn p s (vl i) (if i = 0 then 0 else tm i - tm (i - 1)) (decide (i = 0))
/-- the state of the first rows -/
def sp_fo (kn : Nat) (st p : Int64) (tm vl : Nat → Int64) : Nat → Int64
  | 0 => st
  | i + 1 => sp_sa kn p tm vl i (sp_fo kn st p tm vl i)
/-- the first n rows, the last first -/
def sp_bw (kn : Nat) (p : Int64) (tm vl : Nat → Int64) : Nat → Int64 → Int64
  | 0, s => s
  | i + 1, s => sp_bw kn p tm vl i (sp_sa kn p tm vl i s)
/-- how many lead -/
def sp_ld (P : Nat → Bool) (n : Nat) : Nat := match sp_ix (fun j => !P j) n with
  | some i => i
  | none => n
section CL
variable {G : jx_G} {d a ar sz n k i : Nat} {el : Nat → Nat} {M : jx_H} {Z : Option Value → jx_H → Nat → Prop}
theorem c_L_size (hL : kf_L G M k a ar n el) (kk : Z (some (.int (nI n))) M sz) : jx_Cr md_A_size G d [.ref a] M sz 0 0 Z := by
  obtain ⟨⟨mo, h⟩, -⟩ := hL
  exact c_A_size h kk
theorem c_L_get (hd : 1 < d) (hL : kf_L G M k a ar n el) (hi : i < n) (kk : Z (some (.ref (el i))) M sz) : jx_Cr md_A_get G d [.ref a, .int (nI i)] M sz 0 0 Z := by
  obtain ⟨⟨mo, h⟩, hL⟩ := hL
  rcases hL with ⟨rfl, -⟩ | ⟨N, f, hf, hN0, hnN, hN100, hfe, hfn⟩
  · omega
  · exact c_A_get hd hi hnN (by omega) h hf (hfe i hi) kk
theorem kf_L.at (hL : kf_L G M k a ar n el) : ∃ mo, M a = some (kf_A mo ar n) := hL.1
end CL
section CR
variable {G : jx_G} {d a g fl ta va sa sz n i kn fc fa : Nat} {nm st p s t v : Int64} {wk tk : Int32} {tm vl : Nat → Int64} {M : jx_H} {Z : Option Value → jx_H → Nat → Prop}
theorem c_R_stepAt (hd : 0 < d) (h : M a = some (kf_R nm ta va sa n wk fl)) (ht : M ta = some (kf_la 60 tm)) (hv : M va = some (kf_la 60 vl)) (hg : M g = some (kf_F (nI kn) st p fc fa)) (hk : kn ≤ 8) (hi : i < 60) (k : Z (some (.long (sp_sa kn p tm vl i s))) M sz) : jx_Cr md_R_stepAt G d [.ref a, .int (nI i), .ref g, .long s] M sz 0 0 Z := by
  refine jx_ent rfl (Nat.le_of_ble_eq_true rfl) (l := [some (.ref a), some (.int (nI i)), some (.ref g), some (.long s), none, none, none]) (by simp [jx_le, jx_eas, Value.category]) (fun hlt => ?_)
  have rest : ∀ gp : Int64, gp = (if i = 0 then 0 else tm i - tm (i - 1)) → jx_V md_R_stepAt [] G (jx_rm d 0 0) (jx_Q1 G 0 0 Z) 25 [some (.ref a), some (.int (nI i)), some (.ref g), some (.long s), none, some (.long gp), none] [] M sz 0 0 := by
    intro gp hgp
    refine jx_aload_n (i := 2) d_R_stepAt_25 rfl rfl ?_
    refine jx_lload_n (i := 3) d_R_stepAt_26 rfl rfl ?_
    refine jx_aload_n (i := 0) d_R_stepAt_27 rfl rfl ?_
    refine jx_getf d_R_stepAt_28 gf_R_15 h rfl ?_
    refine jx_iload_n (i := 1) d_R_stepAt_31 rfl rfl ?_
    refine jx_lald (t0 := 1) d_R_stepAt_32 hv rfl (vp_in_nI hi (by omega)) ?_
    refine jx_lload d_R_stepAt_33 rfl ?_
    refine jx_iload_n (i := 1) d_R_stepAt_35 rfl rfl ?_
    refine jx_if_ne (tgt := 43) d_R_stepAt_36 (by decide) (fun c36 => ?_) (fun c36 => ?_)
    · rw [nI_clamp (by omega)]
      refine jx_iconst (v := 0) d_R_stepAt_43 (by decide) ?_
      have e0 : ¬ i = 0 := fun q => c36 (by rw [q]; rfl)
      refine jx_callV4 d_R_stepAt_44 mv_R_87 hg rfl (jx_ok_rm (by omega) (Nat.le_of_ble_eq_true rfl)) (Nat.le_of_ble_eq_true rfl) (jx_rmc (by omega)) (jx_rms (by omega)) (c_F_step (b := false) (d := 0) hk hg ?_)
      dsimp only [Option.toList, List.cons_append, List.nil_append]
      exact jx_lret d_R_stepAt_47 rfl (by omega) (by omega) (by rw [sp_sa, ← hgp, show decide (i = 0) = false from decide_eq_false e0] at k; exact k)
    · rw [nI_clamp (by omega)]
      refine jx_iconst (v := 1) d_R_stepAt_39 (by decide) ?_
      refine jx_goto (tgt := 44) d_R_stepAt_40 (by decide) ?_
      have e0 : i = 0 := (nI_eq (b := 0) (by omega) (by omega)).mp c36
      refine jx_callV4 d_R_stepAt_44 mv_R_87 hg rfl (jx_ok_rm (by omega) (Nat.le_of_ble_eq_true rfl)) (Nat.le_of_ble_eq_true rfl) (jx_rmc (by omega)) (jx_rms (by omega)) (c_F_step (b := true) (d := 0) hk hg ?_)
      dsimp only [Option.toList, List.cons_append, List.nil_append]
      exact jx_lret d_R_stepAt_47 rfl (by omega) (by omega) (by rw [sp_sa, ← hgp, show decide (i = 0) = true from decide_eq_true e0] at k; exact k)
  refine jx_iload_n (i := 1) d_R_stepAt_0 rfl rfl ?_
  refine jx_if_ne (tgt := 8) d_R_stepAt_1 (by decide) (fun c1 => ?_) (fun c1 => ?_)
  · have e0 : ¬ i = 0 := fun q => c1 (by rw [q]; rfl)
    refine jx_aload_n (i := 0) d_R_stepAt_8 rfl rfl ?_
    refine jx_getf d_R_stepAt_9 gf_R_9 h rfl ?_
    refine jx_iload_n (i := 1) d_R_stepAt_12 rfl rfl ?_
    refine jx_lald (t0 := 1) d_R_stepAt_13 ht rfl (vp_in_nI hi (by omega)) ?_
    refine jx_aload_n (i := 0) d_R_stepAt_14 rfl rfl ?_
    refine jx_getf d_R_stepAt_15 gf_R_9 h rfl ?_
    refine jx_iload_n (i := 1) d_R_stepAt_18 rfl rfl ?_
    refine jx_iconst (v := 1) d_R_stepAt_19 (by decide) ?_
    rw [nI_clamp (by omega)]
    refine jx_isub d_R_stepAt_20 ?_
    rw [show nI i - 1 = nI (i - 1) from pk_sub (a := i) (b := 1) (by omega)]
    refine jx_lald (t0 := 1) d_R_stepAt_21 ht rfl (vp_in_nI (by omega) (by omega)) ?_
    rw [nI_clamp (by omega)]
    refine jx_lsub d_R_stepAt_22 ?_
    refine jx_lstore d_R_stepAt_23 (Nat.le_of_ble_eq_true rfl) (jx_f7_5 (by trivial)) ?_
    exact rest _ (by rw [if_neg e0])
  · have e0 : i = 0 := (nI_eq (b := 0) (by omega) (by omega)).mp c1
    refine jx_lconst (v := 0) d_R_stepAt_4 (by decide) ?_
    refine jx_goto (tgt := 23) d_R_stepAt_5 (by decide) ?_
    refine jx_lstore d_R_stepAt_23 (Nat.le_of_ble_eq_true rfl) (jx_f7_5 (by trivial)) ?_
    exact rest _ (by rw [if_pos e0])
theorem c_R_stateOfFirst {r : Nat} (hd : 1 < d) (h : M a = some (kf_R nm ta va sa n wk fl)) (ht : M ta = some (kf_la 60 tm)) (hv : M va = some (kf_la 60 vl)) (hg : M g = some (kf_F (nI kn) st p fc fa)) (hk : kn ≤ 8) (hn : n ≤ 60) (hr : r ≤ n) (k : Z (some (.long (sp_fo kn st p tm vl r))) M sz) : jx_Cr md_R_stateOfFirst G d [.ref a, .int (nI r), .ref g] M sz 0 0 Z := by
  refine jx_ent rfl (Nat.le_of_ble_eq_true rfl) (l := [some (.ref a), some (.int (nI r)), some (.ref g), none, none, none]) (by simp [jx_le, jx_eas, Value.category]) (fun hlt => ?_)
  have loop : ∀ (j i : Nat), i + j = r → jx_V md_R_stateOfFirst [] G (jx_rm d 0 0) (jx_Q1 G 0 0 Z) 8 [some (.ref a), some (.int (nI r)), some (.ref g), some (.long (sp_fo kn st p tm vl i)), none, some (.int (nI i))] [] M sz 0 0 := by
    intro j
    induction j with
    | zero =>
      intro i hi
      refine jx_iload d_R_stateOfFirst_8 rfl ?_
      refine jx_iload_n (i := 1) d_R_stateOfFirst_10 rfl rfl ?_
      refine jx_icmp_ge (tgt := 38) d_R_stateOfFirst_11 (by decide) (fun c11 => ?_) (fun c11 => ?_)
      · refine jx_lload_n (i := 3) d_R_stateOfFirst_38 rfl rfl ?_
        exact jx_lret d_R_stateOfFirst_39 rfl (by omega) (by omega) (by rw [show r = i by omega] at k; exact k)
      · exact absurd ((nI_leI (by omega) (by omega)).mpr (by omega)) c11
    | succ j ih =>
      intro i hi
      refine jx_iload d_R_stateOfFirst_8 rfl ?_
      refine jx_iload_n (i := 1) d_R_stateOfFirst_10 rfl rfl ?_
      refine jx_icmp_ge (tgt := 38) d_R_stateOfFirst_11 (by decide) (fun c11 => ?_) (fun c11 => ?_)
      · exact absurd ((nI_leI (by omega) (by omega)).mp c11) (by omega)
      · refine jx_iload d_R_stateOfFirst_14 rfl ?_
        refine jx_aload_n (i := 0) d_R_stateOfFirst_16 rfl rfl ?_
        refine jx_getf d_R_stateOfFirst_17 gf_R_18 h rfl ?_
        refine jx_icmp_ge (tgt := 38) d_R_stateOfFirst_20 (by decide) (fun c20 => ?_) (fun c20 => ?_)
        · exact absurd ((nI_leI (by omega) (by omega)).mp c20) (by omega)
        · refine jx_aload_n (i := 0) d_R_stateOfFirst_23 rfl rfl ?_
          refine jx_iload d_R_stateOfFirst_24 rfl ?_
          refine jx_aload_n (i := 2) d_R_stateOfFirst_26 rfl rfl ?_
          refine jx_lload_n (i := 3) d_R_stateOfFirst_27 rfl rfl ?_
          refine jx_callV3 d_R_stateOfFirst_28 mv_R_66 h rfl (jx_ok_rm (by omega) (Nat.le_of_ble_eq_true rfl)) (Nat.le_of_ble_eq_true rfl) (jx_rmc (by omega)) (jx_rms (by omega)) (c_R_stepAt (d := 1) (by omega) h ht hv hg hk (by omega) ?_)
          dsimp only [Option.toList, List.cons_append, List.nil_append]
          refine jx_lstore_n (i := 3) d_R_stateOfFirst_31 rfl (Nat.le_of_ble_eq_true rfl) (jx_f6_3 (by trivial)) ?_
          refine jx_iinc d_R_stateOfFirst_32 rfl (Nat.le_of_ble_eq_true rfl) (jx_e6_5 (by trivial)) ?_
          refine jx_goto (tgt := 8) d_R_stateOfFirst_35 (by decide) ?_
          rw [nI_1]
          exact ih (i + 1) (by omega)
  refine jx_aload_n (i := 2) d_R_stateOfFirst_0 rfl rfl ?_
  refine jx_getf d_R_stateOfFirst_1 gf_R_84 hg rfl ?_
  refine jx_lstore_n (i := 3) d_R_stateOfFirst_4 rfl (Nat.le_of_ble_eq_true rfl) (jx_f6_3 (by trivial)) ?_
  refine jx_iconst (v := 0) d_R_stateOfFirst_5 (by decide) ?_
  refine jx_istore d_R_stateOfFirst_6 (Nat.le_of_ble_eq_true rfl) (jx_e6_5 (by trivial)) ?_
  exact loop r 0 (by omega)
theorem sp_ld_le (P : Nat → Bool) (n : Nat) : sp_ld P n ≤ n := by
  unfold sp_ld
  split
  · rename_i i hi
    exact Nat.le_of_lt (sp_ix_lt hi).1
  · omega
theorem c_R_countBelow (h : M a = some (kf_R nm ta va sa n wk fl)) (ht : M ta = some (kf_la 60 tm)) (hn : n ≤ 60) (k : Z (some (.int (nI (sp_ld (fun j => decide (tm j < t)) n)))) M sz) : jx_Cr md_R_countBelow G d [.ref a, .long t] M sz 0 0 Z := by
  refine jx_ent rfl (Nat.le_of_ble_eq_true rfl) (l := [some (.ref a), some (.long t), none, none]) (by simp [jx_le, jx_eas, Value.category]) (fun hlt => ?_)
  have loop : ∀ (j i : Nat), i + j = n → sp_ix (fun j => !decide (tm j < t)) i = none → jx_V md_R_countBelow [] G (jx_rm d 0 0) (jx_Q1 G 0 0 Z) 2 [some (.ref a), some (.long t), none, some (.int (nI i))] [] M sz 0 0 := by
    intro j
    induction j with
    | zero =>
      intro i hi hP
      refine jx_iload_n (i := 3) d_R_countBelow_2 rfl rfl ?_
      refine jx_aload_n (i := 0) d_R_countBelow_3 rfl rfl ?_
      refine jx_getf d_R_countBelow_4 gf_R_18 h rfl ?_
      refine jx_icmp_ge (tgt := 27) d_R_countBelow_7 (by decide) (fun c7 => ?_) (fun c7 => ?_)
      · refine jx_iload_n (i := 3) d_R_countBelow_27 rfl rfl ?_
        exact jx_iret d_R_countBelow_28 rfl (by omega) (by omega) (by rw [sp_ld, show n = i by omega, hP] at k; exact k)
      · exact absurd ((nI_leI (by omega) (by omega)).mpr (by omega)) c7
    | succ j ih =>
      intro i hi hP
      refine jx_iload_n (i := 3) d_R_countBelow_2 rfl rfl ?_
      refine jx_aload_n (i := 0) d_R_countBelow_3 rfl rfl ?_
      refine jx_getf d_R_countBelow_4 gf_R_18 h rfl ?_
      refine jx_icmp_ge (tgt := 27) d_R_countBelow_7 (by decide) (fun c7 => ?_) (fun c7 => ?_)
      · exact absurd ((nI_leI (by omega) (by omega)).mp c7) (by omega)
      · refine jx_aload_n (i := 0) d_R_countBelow_10 rfl rfl ?_
        refine jx_getf d_R_countBelow_11 gf_R_9 h rfl ?_
        refine jx_iload_n (i := 3) d_R_countBelow_14 rfl rfl ?_
        refine jx_lald (t0 := 1) d_R_countBelow_15 ht rfl (vp_in_nI (by omega) (by omega)) ?_
        refine jx_lload_n (i := 1) d_R_countBelow_16 rfl rfl ?_
        refine jx_l_ge (tgt := 27) d_R_countBelow_17 d_R_countBelow_18 (by decide) (fun c17 => ?_) (fun c17 => ?_)
        · refine jx_iload_n (i := 3) d_R_countBelow_27 rfl rfl ?_
          exact jx_iret d_R_countBelow_28 rfl (by omega) (by omega) (by
            rw [nI_clamp (by omega)] at c17
            have : ¬ tm i < t := fun q => absurd c17 (l_nle q)
            rw [sp_ld, sp_ix_at (i := i) hP (by simp [this]) (by omega)] at k
            exact k)
        · refine jx_iinc d_R_countBelow_21 rfl (Nat.le_of_ble_eq_true rfl) (jx_e4_3 (by trivial)) ?_
          refine jx_goto (tgt := 2) d_R_countBelow_24 (by decide) ?_
          rw [nI_1]
          refine ih (i + 1) (by omega) ?_
          rw [nI_clamp (by omega)] at c17
          have : tm i < t := by
            rw [Int64.le_iff_toInt_le] at c17
            rw [Int64.lt_iff_toInt_lt]
            omega
          simp [sp_ix, hP, this]
  refine jx_iconst (v := 0) d_R_countBelow_0 (by decide) ?_
  refine jx_istore_n (i := 3) d_R_countBelow_1 rfl (Nat.le_of_ble_eq_true rfl) (jx_e4_3 (by trivial)) ?_
  exact loop n 0 (by omega) rfl
theorem c_R_hasNear (h : M a = some (kf_R nm ta va sa n wk fl)) (ht : M ta = some (kf_la 60 tm)) (hv : M va = some (kf_la 60 vl)) (hn : n ≤ 60) (k : Z (some (.int (kf_b (sp_ex (fun j => vl j == v && decide (sp_abs (tm j - t) < tk.toInt64)) n)))) M sz) : jx_Cr md_R_hasNear G d [.ref a, .long t, .long v, .int tk] M sz 0 0 Z := by
  refine jx_ent rfl (Nat.le_of_ble_eq_true rfl) (l := [some (.ref a), some (.long t), none, some (.long v), none, some (.int tk), none]) (by simp [jx_le, jx_eas, Value.category]) (fun hlt => ?_)
  have loop : ∀ (j i : Nat), i + j = n → sp_ex (fun j => vl j == v && decide (sp_abs (tm j - t) < tk.toInt64)) i = false → jx_V md_R_hasNear [] G (jx_rm d 0 0) (jx_Q1 G 0 0 Z) 3 [some (.ref a), some (.long t), none, some (.long v), none, some (.int tk), some (.int (nI i))] [] M sz 0 0 := by
    intro j
    induction j with
    | zero =>
      intro i hi hP
      refine jx_iload d_R_hasNear_3 rfl ?_
      refine jx_aload_n (i := 0) d_R_hasNear_5 rfl rfl ?_
      refine jx_getf d_R_hasNear_6 gf_R_18 h rfl ?_
      refine jx_icmp_ge (tgt := 51) d_R_hasNear_9 (by decide) (fun c9 => ?_) (fun c9 => ?_)
      · refine jx_iconst (v := 0) d_R_hasNear_51 (by decide) ?_
        exact jx_zret d_R_hasNear_52 rfl (by first | exact Or.inl rfl | exact Or.inr rfl) (by omega) (by omega) (by rw [show n = i by omega, hP] at k; exact k)
      · exact absurd ((nI_leI (by omega) (by omega)).mpr (by omega)) c9
    | succ j ih =>
      intro i hi hP
      refine jx_iload d_R_hasNear_3 rfl ?_
      refine jx_aload_n (i := 0) d_R_hasNear_5 rfl rfl ?_
      refine jx_getf d_R_hasNear_6 gf_R_18 h rfl ?_
      refine jx_icmp_ge (tgt := 51) d_R_hasNear_9 (by decide) (fun c9 => ?_) (fun c9 => ?_)
      · exact absurd ((nI_leI (by omega) (by omega)).mp c9) (by omega)
      · refine jx_aload_n (i := 0) d_R_hasNear_12 rfl rfl ?_
        refine jx_getf d_R_hasNear_13 gf_R_15 h rfl ?_
        refine jx_iload d_R_hasNear_16 rfl ?_
        refine jx_lald (t0 := 1) d_R_hasNear_18 hv rfl (vp_in_nI (by omega) (by omega)) ?_
        refine jx_lload_n (i := 3) d_R_hasNear_19 rfl rfl ?_
        refine jx_l_ne (tgt := 45) d_R_hasNear_20 d_R_hasNear_21 (by decide) (fun c20 => ?_) (fun c20 => ?_)
        · refine jx_iinc d_R_hasNear_45 rfl (Nat.le_of_ble_eq_true rfl) (jx_e7_6 (by trivial)) ?_
          refine jx_goto (tgt := 3) d_R_hasNear_48 (by decide) ?_
          rw [nI_1]
          refine ih (i + 1) (by omega) ?_
          rw [nI_clamp (by omega)] at c20
          simp [sp_ex, hP, c20]
        · refine jx_aload_n (i := 0) d_R_hasNear_24 rfl rfl ?_
          refine jx_getf d_R_hasNear_25 gf_R_9 h rfl ?_
          refine jx_iload d_R_hasNear_28 rfl ?_
          refine jx_lald (t0 := 1) d_R_hasNear_30 ht rfl (vp_in_nI (by omega) (by omega)) ?_
          rw [nI_clamp (by omega)]
          rw [nI_clamp (by omega)] at c20
          refine jx_lload_n (i := 1) d_R_hasNear_31 rfl rfl ?_
          refine jx_lsub d_R_hasNear_32 ?_
          refine jx_mabsl d_R_hasNear_33 ms_R_36.1.1 (Nat.succ_le_succ (Nat.zero_le _)) (jx_rmm (Nat.le_of_ble_eq_true rfl)) (jx_rmc (by omega)) (jx_rms (by omega)) ?_
          refine jx_iload d_R_hasNear_36 rfl ?_
          refine jx_i2l d_R_hasNear_38 ?_
          refine jx_l_ge (tgt := 45) d_R_hasNear_39 d_R_hasNear_40 (by decide) (fun c39 => ?_) (fun c39 => ?_)
          · refine jx_iinc d_R_hasNear_45 rfl (Nat.le_of_ble_eq_true rfl) (jx_e7_6 (by trivial)) ?_
            refine jx_goto (tgt := 3) d_R_hasNear_48 (by decide) ?_
            rw [nI_1]
            refine ih (i + 1) (by omega) ?_
            have : ¬ sp_abs (tm i - t) < tk.toInt64 := fun q => absurd c39 (l_nle q)
            simp [sp_ex, hP, this]
          · refine jx_iconst (v := 1) d_R_hasNear_43 (by decide) ?_
            exact jx_zret d_R_hasNear_44 rfl (by first | exact Or.inl rfl | exact Or.inr rfl) (by omega) (by omega) (by
              have : sp_abs (tm i - t) < tk.toInt64 := by
                rw [Int64.le_iff_toInt_le] at c39
                rw [Int64.lt_iff_toInt_lt]
                omega
              rw [sp_ex_at (i := i) (by simp [c20, this]) (by omega)] at k
              exact k)
  refine jx_iconst (v := 0) d_R_hasNear_0 (by decide) ?_
  refine jx_istore d_R_hasNear_1 (Nat.le_of_ble_eq_true rfl) (jx_e7_6 (by trivial)) ?_
  exact loop n 0 (by omega) rfl
end CR
end
section
/-! PART 18: KeyRows, what is written: rows -/
theorem jx_castn {y : jx_md} {hh : jx_h4} {G : jx_G} {R : Room} {Q : Array Value → State → List Frame → State → Prop} {pc : Nat} {l : List (Option Value)} {st : List Value} {M : jx_H} {sz kc ks a k : Nat} {fs : List Value} {idx : Nat} {C0 nm : String} {T : u_T} {N : Nat} (dc : decode y.2.1 pc = .ok (.checkcast idx, 3)) (hM : M a = some (.inl (k, fs))) (h1 : vwCl[k]? = some (C0, T, N)) (h2 : Cond.classLink y.1.cls idx nm ∈ jx_tb) (h3 : Cond.castable C0 nm ∈ jx_nb) (kk : jx_V y hh G R Q (pc + 3) l (.ref a :: st) M sz kc ks) : jx_V y hh G R Q pc l (.ref a :: st) M sz kc ks := by
  intro p L e s m args below meth c C K H locs ls hR hS hL
  obtain ⟨hx, hb, hr, hml, hown, hts, hlk, hnm, hex, hst⟩ := id C
  exact va_castY hx hb hown (hts _ h2) (K.2.1 _ h3) (jx_recv hR K hM h1) dc (kk p L e s m args below meth c C K H locs ls hR hS hL)
/-- the four cells of a key -/
def kr_H (M : jx_H) (a ta va sa : Nat) (nm : Int64) (fl nF n : Nat) (wk : Int32) (tm vl ss : Nat → Int64) : Prop := M a = some (kf_R nm ta va sa n wk fl) ∧ M ta = some (kf_la 60 tm) ∧ M va = some (kf_la 60 vl) ∧ M sa = some (kf_la nF ss) ∧ ta ≠ va ∧ ta ≠ sa ∧ va ≠ sa
/-- nothing else has changed -/
def kr_F (a ta va sa : Nat) (M M' : jx_H) : Prop := ∀ q, q ≠ a → q ≠ ta → q ≠ va → q ≠ sa → M' q = M q
theorem kr_F.rf {a ta va sa : Nat} {M : jx_H} : kr_F a ta va sa M M := fun _ _ _ _ _ => rfl
theorem kr_F.tr {a ta va sa : Nat} {M M' M'' : jx_H} (h : kr_F a ta va sa M M') (h' : kr_F a ta va sa M' M'') : kr_F a ta va sa M M'' := fun q h1 h2 h3 h4 => (h' q h1 h2 h3 h4).trans (h q h1 h2 h3 h4)
section KR
variable {M M' : jx_H} {a ta va sa fl nF n : Nat} {nm : Int64} {wk : Int32} {tm vl ss : Nat → Int64} {e : jx_E}
theorem kr_F.ua (h : kr_F a ta va sa M M') : kr_F a ta va sa M (jx_up M' a e) := fun q h1 h2 h3 h4 => (jx_up_n _ _ h1).trans (h q h1 h2 h3 h4)
theorem kr_F.ut (h : kr_F a ta va sa M M') : kr_F a ta va sa M (jx_up M' ta e) := fun q h1 h2 h3 h4 => (jx_up_n _ _ h2).trans (h q h1 h2 h3 h4)
theorem kr_F.uv (h : kr_F a ta va sa M M') : kr_F a ta va sa M (jx_up M' va e) := fun q h1 h2 h3 h4 => (jx_up_n _ _ h3).trans (h q h1 h2 h3 h4)
theorem kr_F.us (h : kr_F a ta va sa M M') : kr_F a ta va sa M (jx_up M' sa e) := fun q h1 h2 h3 h4 => (jx_up_n _ _ h4).trans (h q h1 h2 h3 h4)
theorem kr_ne (h : kr_H M a ta va sa nm fl nF n wk tm vl ss) : a ≠ ta ∧ a ≠ va ∧ a ≠ sa := by
  obtain ⟨h1, h2, h3, h4, -⟩ := h
  refine ⟨fun q => ?_, fun q => ?_, fun q => ?_⟩
  · rw [q, h2] at h1; simp at h1
  · rw [q, h3] at h1; simp at h1
  · rw [q, h4] at h1; simp at h1
theorem kr_H.ua (h : kr_H M a ta va sa nm fl nF n wk tm vl ss) (n' : Nat) (wk' : Int32) : kr_H (jx_up M a (kf_R nm ta va sa n' wk' fl)) a ta va sa nm fl nF n' wk' tm vl ss := by
  have hn := kr_ne h
  obtain ⟨h1, h2, h3, h4, d1, d2, d3⟩ := h
  exact ⟨jx_up_s _ _ _, (jx_up_n _ _ (Ne.symm hn.1)).trans h2, (jx_up_n _ _ (Ne.symm hn.2.1)).trans h3, (jx_up_n _ _ (Ne.symm hn.2.2)).trans h4, d1, d2, d3⟩
theorem kr_H.ut (h : kr_H M a ta va sa nm fl nF n wk tm vl ss) (tm' : Nat → Int64) : kr_H (jx_up M ta (kf_la 60 tm')) a ta va sa nm fl nF n wk tm' vl ss := by
  have hn := kr_ne h
  obtain ⟨h1, h2, h3, h4, d1, d2, d3⟩ := h
  exact ⟨(jx_up_n _ _ hn.1).trans h1, jx_up_s _ _ _, (jx_up_n _ _ (Ne.symm d1)).trans h3, (jx_up_n _ _ (Ne.symm d2)).trans h4, d1, d2, d3⟩
theorem kr_H.uv (h : kr_H M a ta va sa nm fl nF n wk tm vl ss) (vl' : Nat → Int64) : kr_H (jx_up M va (kf_la 60 vl')) a ta va sa nm fl nF n wk tm vl' ss := by
  have hn := kr_ne h
  obtain ⟨h1, h2, h3, h4, d1, d2, d3⟩ := h
  exact ⟨(jx_up_n _ _ hn.2.1).trans h1, (jx_up_n _ _ d1).trans h2, jx_up_s _ _ _, (jx_up_n _ _ (Ne.symm d3)).trans h4, d1, d2, d3⟩
theorem kr_H.us (h : kr_H M a ta va sa nm fl nF n wk tm vl ss) (ss' : Nat → Int64) : kr_H (jx_up M sa (kf_la nF ss')) a ta va sa nm fl nF n wk tm vl ss' := by
  have hn := kr_ne h
  obtain ⟨h1, h2, h3, h4, d1, d2, d3⟩ := h
  exact ⟨(jx_up_n _ _ hn.2.2).trans h1, (jx_up_n _ _ d2).trans h2, (jx_up_n _ _ d3).trans h3, jx_up_s _ _ _, d1, d2, d3⟩
end KR
/-- a fold's data: kind, start, p, how many values it fails at, their array -/
abbrev kf_Fd (q : Nat × Int64 × Int64 × Nat × Nat) : jx_E := kf_F (nI q.1) q.2.1 q.2.2.1 q.2.2.2.1 q.2.2.2.2
/-- the folds' list -/
def kf_Fs (G : jx_G) (M : jx_H) (fl far nF : Nat) (fo : Nat → Nat) (fd : Nat → Nat × Int64 × Int64 × Nat × Nat) : Prop := kf_L G M 0 fl far nF fo ∧ nF ≤ 6 ∧ ∀ i, i < nF → (fd i).1 ≤ 8 ∧ M (fo i) = some (kf_Fd (fd i))
theorem kf_Fs.to {G : jx_G} {M M' : jx_H} {a ta va sa fl nF n far : Nat} {nm : Int64} {wk : Int32} {tm vl ss : Nat → Int64} {fo : Nat → Nat} {fd : Nat → Nat × Int64 × Int64 × Nat × Nat} (hF : kf_Fs G M fl far nF fo fd) (h : kr_H M a ta va sa nm fl nF n wk tm vl ss) (hf : kr_F a ta va sa M M') : kf_Fs G M' fl far nF fo fd := by
  obtain ⟨⟨⟨mo, g1⟩, g2⟩, g3, g4⟩ := hF
  obtain ⟨h1, h2, h3, h4, -⟩ := h
  have key : ∀ q e, M q = some e → (∀ nm n wk fl, e ≠ kf_R nm ta va sa n wk fl) → (∀ n f, e ≠ kf_la n f) → M' q = some e := by
    intro q e he n1 n2
    rw [hf q (fun z => by rw [z, h1] at he; exact n1 _ _ _ _ (Option.some.inj he).symm) (fun z => by rw [z, h2] at he; exact n2 _ _ (Option.some.inj he).symm) (fun z => by rw [z, h3] at he; exact n2 _ _ (Option.some.inj he).symm) (fun z => by rw [z, h4] at he; exact n2 _ _ (Option.some.inj he).symm)]
    exact he
  refine ⟨⟨⟨mo, key _ _ g1 (by intros; simp) (by intros; simp)⟩, ?_⟩, g3, fun i hi => ⟨(g4 i hi).1, key _ _ (g4 i hi).2 (by intros; simp) (by intros; simp)⟩⟩
  rcases g2 with g2 | ⟨N, f, e1, e2⟩
  · exact Or.inl g2
  · exact Or.inr ⟨N, f, key _ _ e1 (by intros; simp) (by intros; simp), e2⟩
/-- rows moved up from place i on -/
def sp_sh (tm : Nat → Int64) (n i : Nat) : Nat → Int64 := fun q => if i < q ∧ q ≤ n then tm (q - 1) else tm q
def sp_in (tm : Nat → Int64) (n i : Nat) (x : Int64) : Nat → Int64 := vp_updL (sp_sh tm n i) i x
/-- the first k are gone -/
def sp_rm (tm : Nat → Int64) (n k : Nat) : Nat → Int64 := fun q => if q + k < n then tm (q + k) else tm q
theorem sp_sh_n (tm : Nat → Int64) (n : Nat) : sp_sh tm n n = tm := by
  funext q
  unfold sp_sh
  rw [if_neg (by omega)]
theorem sp_sh_s (tm : Nat → Int64) {n i : Nat} (hi : i < n) : vp_updL (sp_sh tm n (i + 1)) (i + 1) (sp_sh tm n (i + 1) i) = sp_sh tm n i := by
  funext q
  unfold vp_updL sp_sh
  by_cases h1 : q = i + 1
  · subst h1
    rw [if_pos rfl, if_neg (by omega), if_pos (by omega)]
    rfl
  · rw [if_neg h1]
    by_cases h2 : i + 1 < q ∧ q ≤ n
    · rw [if_pos h2, if_pos (by omega)]
    · rw [if_neg h2, if_neg (by omega)]
theorem sp_rm_s (tm : Nat → Int64) {k i : Nat} (hk : 0 < k) (hi : k ≤ i) : vp_updL (sp_rm tm i k) (i - k) (sp_rm tm i k i) = sp_rm tm (i + 1) k := by
  funext q
  unfold vp_updL sp_rm
  by_cases h1 : q = i - k
  · subst h1
    rw [if_pos rfl, if_neg (by omega), if_pos (by omega)]
    congr 1
    omega
  · rw [if_neg h1]
    by_cases h2 : q + k < i
    · rw [if_pos h2, if_pos (by omega)]
    · rw [if_neg h2, if_neg (by omega)]
theorem sp_rm_k (tm : Nat → Int64) (k : Nat) : sp_rm tm k k = tm := by
  funext q
  unfold sp_rm
  rw [if_neg (by omega)]
section CR2
variable {G : jx_G} {d a ta va sa fl nF sz n : Nat} {nm t v : Int64} {wk : Int32} {tm vl ss : Nat → Int64} {M : jx_H} {Z : Option Value → jx_H → Nat → Prop}
theorem c_R_insert {pl : Nat} (hp : pl ≤ n) (hn : n < 60) (h : kr_H M a ta va sa nm fl nF n wk tm vl ss) (k : ∀ M', kr_H M' a ta va sa nm fl nF (n + 1) wk (sp_in tm n pl t) (sp_in vl n pl v) ss → kr_F a ta va sa M M' → Z none M' sz) : jx_Cr md_R_insert G d [.ref a, .int (nI pl), .long t, .long v] M sz 0 0 Z := by
  refine jx_ent rfl (Nat.le_of_ble_eq_true rfl) (l := [some (.ref a), some (.int (nI pl)), some (.long t), none, some (.long v), none, none]) (by simp [jx_le, jx_eas, Value.category]) (fun hlt => ?_)
  have loop : ∀ (j i : Nat) (M1 : jx_H), pl + j = i → i ≤ n → kr_H M1 a ta va sa nm fl nF n wk (sp_sh tm n i) (sp_sh vl n i) ss → kr_F a ta va sa M M1 → jx_V md_R_insert [] G (jx_rm d 0 0) (jx_Q1 G 0 0 Z) 6 [some (.ref a), some (.int (nI pl)), some (.long t), none, some (.long v), none, some (.int (nI i))] [] M1 sz 0 0 := by
    intro j
    induction j with
    | zero =>
      intro i M1 hi hin h1 hf
      refine jx_iload d_R_insert_6 rfl ?_
      refine jx_iload_n (i := 1) d_R_insert_8 rfl rfl ?_
      refine jx_icmp_le (tgt := 50) d_R_insert_9 (by decide) (fun c9 => ?_) (fun c9 => ?_)
      · have e : i = pl := by omega
        subst e
        have h2 := h1.ut (sp_in tm n i t)
        have h3 := h2.uv (sp_in vl n i v)
        have h4 := h3.ua (n + 1) wk
        refine jx_aload_n (i := 0) d_R_insert_50 rfl rfl ?_
        refine jx_getf d_R_insert_51 gf_R_9 h1.1 rfl ?_
        refine jx_iload_n (i := 1) d_R_insert_54 rfl rfl ?_
        refine jx_lload_n (i := 2) d_R_insert_55 rfl rfl ?_
        refine jx_last (t0 := 1) d_R_insert_56 h1.2.1 rfl (vp_in_nI (by omega) (by omega)) ?_
        rw [nI_clamp (by omega)]
        refine jx_aload_n (i := 0) d_R_insert_57 rfl rfl ?_
        refine jx_getf d_R_insert_58 gf_R_15 h2.1 rfl ?_
        refine jx_iload_n (i := 1) d_R_insert_61 rfl rfl ?_
        refine jx_lload d_R_insert_62 rfl ?_
        refine jx_last (t0 := 1) d_R_insert_64 h2.2.2.1 rfl (vp_in_nI (by omega) (by omega)) ?_
        rw [nI_clamp (by omega)]
        refine jx_aload_n (i := 0) d_R_insert_65 rfl rfl ?_
        refine jx_dup d_R_insert_66 rfl ?_
        refine jx_getf d_R_insert_67 gf_R_18 h3.1 rfl ?_
        refine jx_iconst (v := 1) d_R_insert_70 (by decide) ?_
        refine jx_iadd d_R_insert_71 ?_
        rw [nI_1]
        refine jx_putf d_R_insert_72 pf_R_18 h3.1 (Nat.le_of_ble_eq_true rfl) rfl rfl ?_
        exact jx_vret d_R_insert_75 rfl (by omega) (by omega) (k _ h4 hf.ut.uv.ua)
      · exact absurd ((nI_leI (by omega) (by omega)).mpr (by omega)) c9
    | succ j ih =>
      intro i M1 hi hin h1 hf
      obtain ⟨i, rfl⟩ : ∃ z, i = z + 1 := ⟨i - 1, by omega⟩
      have h2 := h1.ut (sp_sh tm n i)
      have h3 := h2.uv (sp_sh vl n i)
      refine jx_iload d_R_insert_6 rfl ?_
      refine jx_iload_n (i := 1) d_R_insert_8 rfl rfl ?_
      refine jx_icmp_le (tgt := 50) d_R_insert_9 (by decide) (fun c9 => ?_) (fun c9 => ?_)
      · exact absurd ((nI_leI (by omega) (by omega)).mp c9) (by omega)
      · refine jx_aload_n (i := 0) d_R_insert_12 rfl rfl ?_
        refine jx_getf d_R_insert_13 gf_R_9 h1.1 rfl ?_
        refine jx_iload d_R_insert_16 rfl ?_
        refine jx_aload_n (i := 0) d_R_insert_18 rfl rfl ?_
        refine jx_getf d_R_insert_19 gf_R_9 h1.1 rfl ?_
        refine jx_iload d_R_insert_22 rfl ?_
        refine jx_iconst (v := 1) d_R_insert_24 (by decide) ?_
        refine jx_isub d_R_insert_25 ?_
        rw [nI_pred]
        refine jx_lald (t0 := 1) d_R_insert_26 h1.2.1 rfl (vp_in_nI (by omega) (by omega)) ?_
        refine jx_last (t0 := 1) d_R_insert_27 h1.2.1 rfl (vp_in_nI (by omega) (by omega)) ?_
        rw [nI_clamp (by omega), nI_clamp (by omega), sp_sh_s tm (by omega)]
        refine jx_aload_n (i := 0) d_R_insert_28 rfl rfl ?_
        refine jx_getf d_R_insert_29 gf_R_15 h2.1 rfl ?_
        refine jx_iload d_R_insert_32 rfl ?_
        refine jx_aload_n (i := 0) d_R_insert_34 rfl rfl ?_
        refine jx_getf d_R_insert_35 gf_R_15 h2.1 rfl ?_
        refine jx_iload d_R_insert_38 rfl ?_
        refine jx_iconst (v := 1) d_R_insert_40 (by decide) ?_
        refine jx_isub d_R_insert_41 ?_
        rw [nI_pred]
        refine jx_lald (t0 := 1) d_R_insert_42 h2.2.2.1 rfl (vp_in_nI (by omega) (by omega)) ?_
        refine jx_last (t0 := 1) d_R_insert_43 h2.2.2.1 rfl (vp_in_nI (by omega) (by omega)) ?_
        rw [nI_clamp (by omega), nI_clamp (by omega), sp_sh_s vl (by omega)]
        refine jx_iincM d_R_insert_44 rfl (Nat.le_of_ble_eq_true rfl) (jx_e7_6 (by trivial)) ?_
        refine jx_goto (tgt := 6) d_R_insert_47 (by decide) ?_
        rw [pk_m1]
        exact ih i _ (by omega) (by omega) h3 hf.ut.uv
  refine jx_aload_n (i := 0) d_R_insert_0 rfl rfl ?_
  refine jx_getf d_R_insert_1 gf_R_18 h.1 rfl ?_
  refine jx_istore d_R_insert_4 (Nat.le_of_ble_eq_true rfl) (jx_e7_6 (by trivial)) ?_
  exact loop (n - pl) n M (by omega) (by omega) (by rw [sp_sh_n, sp_sh_n]; exact h) kr_F.rf
theorem c_R_removeFirst {g : Nat} (hg : 0 < g) (hgn : g ≤ n) (hn : n ≤ 60) (h : kr_H M a ta va sa nm fl nF n wk tm vl ss) (k : ∀ M', kr_H M' a ta va sa nm fl nF (n - g) wk (sp_rm tm n g) (sp_rm vl n g) ss → kr_F a ta va sa M M' → Z none M' sz) : jx_Cr md_R_removeFirst G d [.ref a, .int (nI g)] M sz 0 0 Z := by
  refine jx_ent rfl (Nat.le_of_ble_eq_true rfl) (l := [some (.ref a), some (.int (nI g)), none]) (by simp [jx_le, jx_eas, Value.category]) (fun hlt => ?_)
  have loop : ∀ (j i : Nat) (M1 : jx_H), i + j = n → g ≤ i → kr_H M1 a ta va sa nm fl nF n wk (sp_rm tm i g) (sp_rm vl i g) ss → kr_F a ta va sa M M1 → jx_V md_R_removeFirst [] G (jx_rm d 0 0) (jx_Q1 G 0 0 Z) 2 [some (.ref a), some (.int (nI g)), some (.int (nI i))] [] M1 sz 0 0 := by
    intro j
    induction j with
    | zero =>
      intro i M1 hi hgi h1 hf
      refine jx_iload_n (i := 2) d_R_removeFirst_2 rfl rfl ?_
      refine jx_aload_n (i := 0) d_R_removeFirst_3 rfl rfl ?_
      refine jx_getf d_R_removeFirst_4 gf_R_18 h1.1 rfl ?_
      refine jx_icmp_ge (tgt := 44) d_R_removeFirst_7 (by decide) (fun c7 => ?_) (fun c7 => ?_)
      · have e : i = n := by omega
        subst e
        have h4 := h1.ua (i - g) wk
        refine jx_aload_n (i := 0) d_R_removeFirst_44 rfl rfl ?_
        refine jx_dup d_R_removeFirst_45 rfl ?_
        refine jx_getf d_R_removeFirst_46 gf_R_18 h1.1 rfl ?_
        refine jx_iload_n (i := 1) d_R_removeFirst_49 rfl rfl ?_
        refine jx_isub d_R_removeFirst_50 ?_
        rw [pk_sub (by omega)]
        refine jx_putf d_R_removeFirst_51 pf_R_18 h1.1 (Nat.le_of_ble_eq_true rfl) rfl rfl ?_
        exact jx_vret d_R_removeFirst_54 rfl (by omega) (by omega) (k _ h4 hf.ua)
      · exact absurd ((nI_leI (by omega) (by omega)).mpr (by omega)) c7
    | succ j ih =>
      intro i M1 hi hgi h1 hf
      have h2 := h1.ut (sp_rm tm (i + 1) g)
      have h3 := h2.uv (sp_rm vl (i + 1) g)
      refine jx_iload_n (i := 2) d_R_removeFirst_2 rfl rfl ?_
      refine jx_aload_n (i := 0) d_R_removeFirst_3 rfl rfl ?_
      refine jx_getf d_R_removeFirst_4 gf_R_18 h1.1 rfl ?_
      refine jx_icmp_ge (tgt := 44) d_R_removeFirst_7 (by decide) (fun c7 => ?_) (fun c7 => ?_)
      · exact absurd ((nI_leI (by omega) (by omega)).mp c7) (by omega)
      · refine jx_aload_n (i := 0) d_R_removeFirst_10 rfl rfl ?_
        refine jx_getf d_R_removeFirst_11 gf_R_9 h1.1 rfl ?_
        refine jx_iload_n (i := 2) d_R_removeFirst_14 rfl rfl ?_
        refine jx_iload_n (i := 1) d_R_removeFirst_15 rfl rfl ?_
        refine jx_isub d_R_removeFirst_16 ?_
        rw [pk_sub (by omega)]
        refine jx_aload_n (i := 0) d_R_removeFirst_17 rfl rfl ?_
        refine jx_getf d_R_removeFirst_18 gf_R_9 h1.1 rfl ?_
        refine jx_iload_n (i := 2) d_R_removeFirst_21 rfl rfl ?_
        refine jx_lald (t0 := 1) d_R_removeFirst_22 h1.2.1 rfl (vp_in_nI (by omega) (by omega)) ?_
        refine jx_last (t0 := 1) d_R_removeFirst_23 h1.2.1 rfl (vp_in_nI (by omega) (by omega)) ?_
        rw [nI_clamp (by omega), nI_clamp (by omega), sp_rm_s tm hg hgi]
        refine jx_aload_n (i := 0) d_R_removeFirst_24 rfl rfl ?_
        refine jx_getf d_R_removeFirst_25 gf_R_15 h2.1 rfl ?_
        refine jx_iload_n (i := 2) d_R_removeFirst_28 rfl rfl ?_
        refine jx_iload_n (i := 1) d_R_removeFirst_29 rfl rfl ?_
        refine jx_isub d_R_removeFirst_30 ?_
        rw [pk_sub (by omega)]
        refine jx_aload_n (i := 0) d_R_removeFirst_31 rfl rfl ?_
        refine jx_getf d_R_removeFirst_32 gf_R_15 h2.1 rfl ?_
        refine jx_iload_n (i := 2) d_R_removeFirst_35 rfl rfl ?_
        refine jx_lald (t0 := 1) d_R_removeFirst_36 h2.2.2.1 rfl (vp_in_nI (by omega) (by omega)) ?_
        refine jx_last (t0 := 1) d_R_removeFirst_37 h2.2.2.1 rfl (vp_in_nI (by omega) (by omega)) ?_
        rw [nI_clamp (by omega), nI_clamp (by omega), sp_rm_s vl hg hgi]
        refine jx_iinc d_R_removeFirst_38 rfl (Nat.le_of_ble_eq_true rfl) (jx_e3_2 (by trivial)) ?_
        refine jx_goto (tgt := 2) d_R_removeFirst_41 (by decide) ?_
        rw [nI_1]
        exact ih (i + 1) _ (by omega) (by omega) h3 hf.ut.uv
  refine jx_iload_n (i := 1) d_R_removeFirst_0 rfl rfl ?_
  refine jx_istore_n (i := 2) d_R_removeFirst_1 rfl (Nat.le_of_ble_eq_true rfl) (jx_e3_2 (by trivial)) ?_
  exact loop (n - g) g M (by omega) (by omega) (by rw [sp_rm_k, sp_rm_k]; exact h) kr_F.rf
end CR2
end
section
/-! PART 19: KeyRows: take, leaveBelow and what they call -/
/-- the steps of the first i rows taken back -/
def sp_tk (kn : Nat) (p : Int64) (vl : Nat → Int64) : Nat → Int64 → Int64
  | 0, s => s
  | i + 1, s => sp_bk kn p (sp_tk kn p vl i s) (vl i)
/-- work added fold by fold -/
def sp_ws (c : Nat → Int32) (wk : Int32) : Nat → Int32
  | 0 => wk
  | f + 1 => sp_ws c wk f + c f
def sp_ut (f : Nat) (nw od : Nat → Int64) : Nat → Int64 := fun q => if q < f then nw q else od q
theorem sp_ut_0 (nw od : Nat → Int64) : sp_ut 0 nw od = od := by
  funext q
  simp [sp_ut]
theorem sp_ut_f (f : Nat) (nw od : Nat → Int64) : sp_ut f nw od f = od f := by simp [sp_ut]
theorem sp_ut_s (f : Nat) (nw od : Nat → Int64) : vp_updL (sp_ut f nw od) f (nw f) = sp_ut (f + 1) nw od := by
  funext q
  unfold vp_updL sp_ut
  by_cases h : q = f
  · subst h
    rw [if_pos rfl, if_pos (by omega)]
  · rw [if_neg h]
    by_cases h2 : q < f
    · rw [if_pos h2, if_pos (by omega)]
    · rw [if_neg h2, if_neg (by omega)]
theorem sp_ut_e {f : Nat} {nw od : Nat → Int64} (h : nw f = od f) : sp_ut (f + 1) nw od = sp_ut f nw od := by
  funext q
  unfold sp_ut
  by_cases h1 : q = f
  · subst h1
    rw [if_pos (by omega), if_neg (by omega), h]
  · by_cases h2 : q < f
    · rw [if_pos h2, if_pos (by omega)]
    · rw [if_neg h2, if_neg (by omega)]
theorem vp_uu (f : Nat → Int64) (k : Nat) (x z : Int64) : vp_updL (vp_updL f k x) k z = vp_updL f k z := by
  funext q
  unfold vp_updL
  by_cases h : q = k <;> simp [h]
theorem vp_us (f : Nat → Int64) (k : Nat) (x : Int64) : vp_updL f k x k = x := by simp [vp_updL]
abbrev sp_fd : Type := Nat → Nat × Int64 × Int64 × Nat × Nat
/-- states when g rows go -/
def sp_n1 (fd : sp_fd) (vl ss : Nat → Int64) (g : Nat) : Nat → Int64 := fun f => if sp_tb (nI (fd f).1) then sp_tk (fd f).1 (fd f).2.2.1 vl g (ss f) else ss f
def sp_n2 (fd : sp_fd) (tm vl ss : Nat → Int64) (n : Nat) : Nat → Int64 := fun f => if sp_tb (nI (fd f).1) then ss f else sp_fo (fd f).1 (fd f).2.1 (fd f).2.2.1 tm vl n
def sp_n3 (fd : sp_fd) (tm vl ss : Nat → Int64) (n pl : Nat) : Nat → Int64 := fun f => if (decide (pl = n - 1) || sp_mj (nI (fd f).1)) then sp_sa (fd f).1 (fd f).2.2.1 tm vl pl (ss f) else sp_fo (fd f).1 (fd f).2.1 (fd f).2.2.1 tm vl n
def sp_c1 (fd : sp_fd) (g : Nat) : Nat → Int32 := fun f => if sp_tb (nI (fd f).1) then nI g else 0
def sp_c2 (fd : sp_fd) (n : Nat) : Nat → Int32 := fun f => if sp_tb (nI (fd f).1) then 0 else nI n
def sp_c3 (fd : sp_fd) (n pl : Nat) : Nat → Int32 := fun f => if (decide (pl = n - 1) || sp_mj (nI (fd f).1)) then 1 else nI n
theorem kf_b_eq0 (b : Bool) : kf_b b = 0 ↔ b = false := by cases b <;> simp [kf_b]
theorem i_a0 (x : Int32) : x + 0 = x := by simp
section CR3
variable {G : jx_G} {d a ta va sa fl far nF sz n g : Nat} {nm t v : Int64} {wk : Int32} {tm vl ss : Nat → Int64} {fo : Nat → Nat} {fd : sp_fd} {M : jx_H} {Z : Option Value → jx_H → Nat → Prop}
theorem c_R_takeBackFirst (hd : 2 < d) (hgn : g ≤ n) (hn : n ≤ 60) (h : kr_H M a ta va sa nm fl nF n wk tm vl ss) (hF : kf_Fs G M fl far nF fo fd) (k : ∀ M', kr_H M' a ta va sa nm fl nF n (sp_ws (sp_c1 fd g) wk nF) tm vl (sp_ut nF (sp_n1 fd vl ss g) ss) → kr_F a ta va sa M M' → Z none M' sz) : jx_Cr md_R_takeBackFirst G d [.ref a, .int (nI g)] M sz 0 0 Z := by
  refine jx_ent rfl (Nat.le_of_ble_eq_true rfl) (l := [some (.ref a), some (.int (nI g)), none, none, none]) (by simp [jx_le, jx_eas, Value.category]) (fun hlt => ?_)
  have hnF := hF.2.1
  have loop : ∀ (j f : Nat) (M1 : jx_H), f + j = nF → kr_H M1 a ta va sa nm fl nF n (sp_ws (sp_c1 fd g) wk f) tm vl (sp_ut f (sp_n1 fd vl ss g) ss) → kr_F a ta va sa M M1 → jx_V md_R_takeBackFirst [] G (jx_rm d 0 0) (jx_Q1 G 0 0 Z) 2 [some (.ref a), some (.int (nI g)), some (.int (nI f)), none, none] [] M1 sz 0 0 := by
    intro j
    induction j with
    | zero =>
      intro f M1 hi h1 hf
      have hF1 := hF.to h hf
      refine jx_iload_n (i := 2) d_R_takeBackFirst_2 rfl rfl ?_
      refine jx_aload_n (i := 0) d_R_takeBackFirst_3 rfl rfl ?_
      refine jx_getf d_R_takeBackFirst_4 gf_R_29 h1.1 rfl ?_
      obtain ⟨mo, hA⟩ := hF1.1.1
      refine jx_callV0 d_R_takeBackFirst_7 mv_R_50 hA rfl (jx_ok_rm (by omega) (Nat.le_of_ble_eq_true rfl)) (Nat.le_of_ble_eq_true rfl) (jx_rmc (by omega)) (jx_rms (by omega)) (c_L_size (d := 0) hF1.1 ?_)
      dsimp only [Option.toList, List.cons_append, List.nil_append]
      refine jx_icmp_ge (tgt := 86) d_R_takeBackFirst_10 (by decide) (fun c10 => ?_) (fun c10 => ?_)
      · exact jx_vret d_R_takeBackFirst_86 rfl (by omega) (by omega) (by
          have e : f = nF := by omega
          subst e
          exact k _ h1 hf)
      · exact absurd ((nI_leI (by omega) (by omega)).mpr (by omega)) c10
    | succ j ih =>
      intro f M1 hi h1 hf
      have hF1 := hF.to h hf
      have hfd := hF1.2.2 f (by omega)
      obtain ⟨mo, hA⟩ := hF1.1.1
      refine jx_iload_n (i := 2) d_R_takeBackFirst_2 rfl rfl ?_
      refine jx_aload_n (i := 0) d_R_takeBackFirst_3 rfl rfl ?_
      refine jx_getf d_R_takeBackFirst_4 gf_R_29 h1.1 rfl ?_
      refine jx_callV0 d_R_takeBackFirst_7 mv_R_50 hA rfl (jx_ok_rm (by omega) (Nat.le_of_ble_eq_true rfl)) (Nat.le_of_ble_eq_true rfl) (jx_rmc (by omega)) (jx_rms (by omega)) (c_L_size (d := 0) hF1.1 ?_)
      dsimp only [Option.toList, List.cons_append, List.nil_append]
      refine jx_icmp_ge (tgt := 86) d_R_takeBackFirst_10 (by decide) (fun c10 => ?_) (fun c10 => ?_)
      · exact absurd ((nI_leI (by omega) (by omega)).mp c10) (by omega)
      · refine jx_aload_n (i := 0) d_R_takeBackFirst_13 rfl rfl ?_
        refine jx_getf d_R_takeBackFirst_14 gf_R_29 h1.1 rfl ?_
        refine jx_iload_n (i := 2) d_R_takeBackFirst_17 rfl rfl ?_
        refine jx_callV1 d_R_takeBackFirst_18 mv_R_56 hA rfl (jx_ok_rm (by omega) (Nat.le_of_ble_eq_true rfl)) (Nat.le_of_ble_eq_true rfl) (jx_rmc (by omega)) (jx_rms (by omega)) (c_L_get (d := 2) (by omega) hF1.1 (by omega) ?_)
        dsimp only [Option.toList, List.cons_append, List.nil_append]
        refine jx_castn d_R_takeBackFirst_21 hfd.2 rfl nk_R_60 nx_F_KeyedFolds_Fold ?_
        refine jx_astore_n (i := 3) d_R_takeBackFirst_24 rfl (Nat.le_of_ble_eq_true rfl) (jx_e5_3 (by trivial)) ?_
        refine jx_aload_n (i := 3) d_R_takeBackFirst_25 rfl rfl ?_
        refine jx_callV0 d_R_takeBackFirst_26 mv_R_91 hfd.2 rfl (jx_ok_rm (by omega) (Nat.le_of_ble_eq_true rfl)) (Nat.le_of_ble_eq_true rfl) (jx_rmc (by omega)) (jx_rms (by omega)) (c_F_canBeTakenBack (d := 0) hfd.2 ?_)
        dsimp only [Option.toList, List.cons_append, List.nil_append]
        refine jx_if_eq (tgt := 80) d_R_takeBackFirst_29 (by decide) (fun c29 => ?_) (fun c29 => ?_)
        · rw [kf_b_eq0] at c29
          refine jx_iinc d_R_takeBackFirst_80 rfl (Nat.le_of_ble_eq_true rfl) (jx_e5_2 (by trivial)) ?_
          refine jx_goto (tgt := 2) d_R_takeBackFirst_83 (by decide) ?_
          rw [nI_1]
          refine jx_wk (l' := [some (.ref a), some (.int (nI g)), some (.int (nI (f + 1))), none, none]) (by simp [jx_le]) ?_
          refine ih (f + 1) M1 (by omega) ?_ hf
          rw [sp_ut_e (by simp [sp_n1, c29]), show sp_ws (sp_c1 fd g) wk (f + 1) = sp_ws (sp_c1 fd g) wk f by simp [sp_ws, sp_c1, c29]]
          exact h1
        · have ctb : sp_tb (nI (fd f).1) = true := by
            cases hq : sp_tb (nI (fd f).1) with
            | true => rfl
            | false => exact absurd ((kf_b_eq0 _).mpr hq) c29
          refine jx_iconst (v := 0) d_R_takeBackFirst_32 (by decide) ?_
          refine jx_istore d_R_takeBackFirst_33 (Nat.le_of_ble_eq_true rfl) (jx_e5_4 (by trivial)) ?_
          have inner : ∀ (j2 i : Nat) (M2 : jx_H), i + j2 = g → kr_H M2 a ta va sa nm fl nF n (sp_ws (sp_c1 fd g) wk f) tm vl (vp_updL (sp_ut f (sp_n1 fd vl ss g) ss) f (sp_tk (fd f).1 (fd f).2.2.1 vl i (ss f))) → kr_F a ta va sa M M2 → jx_V md_R_takeBackFirst [] G (jx_rm d 0 0) (jx_Q1 G 0 0 Z) 35 [some (.ref a), some (.int (nI g)), some (.int (nI f)), some (.ref (fo f)), some (.int (nI i))] [] M2 sz 0 0 := by
            intro j2
            induction j2 with
            | zero =>
              intro i M2 hi2 h2 hf2
              refine jx_iload d_R_takeBackFirst_35 rfl ?_
              refine jx_iload_n (i := 1) d_R_takeBackFirst_37 rfl rfl ?_
              refine jx_icmp_ge (tgt := 70) d_R_takeBackFirst_38 (by decide) (fun c38 => ?_) (fun c38 => ?_)
              · have e : i = g := by omega
                subst e
                have h3 := h2.ua n (sp_ws (sp_c1 fd i) wk f + nI i)
                refine jx_aload_n (i := 0) d_R_takeBackFirst_70 rfl rfl ?_
                refine jx_dup d_R_takeBackFirst_71 rfl ?_
                refine jx_getf d_R_takeBackFirst_72 gf_R_22 h2.1 rfl ?_
                refine jx_iload_n (i := 1) d_R_takeBackFirst_75 rfl rfl ?_
                refine jx_iadd d_R_takeBackFirst_76 ?_
                refine jx_putf d_R_takeBackFirst_77 pf_R_22 h2.1 (Nat.le_of_ble_eq_true rfl) rfl rfl ?_
                refine jx_iinc d_R_takeBackFirst_80 rfl (Nat.le_of_ble_eq_true rfl) (jx_e5_2 (by trivial)) ?_
                refine jx_goto (tgt := 2) d_R_takeBackFirst_83 (by decide) ?_
                rw [nI_1]
                refine jx_wk (l' := [some (.ref a), some (.int (nI i)), some (.int (nI (f + 1))), none, none]) (by simp [jx_le]) ?_
                refine ih (f + 1) _ (by omega) ?_ hf2.ua
                rw [← sp_ut_s, show sp_n1 fd vl ss i f = sp_tk (fd f).1 (fd f).2.2.1 vl i (ss f) by simp [sp_n1, ctb], show sp_ws (sp_c1 fd i) wk (f + 1) = sp_ws (sp_c1 fd i) wk f + nI i by simp [sp_ws, sp_c1, ctb]]
                exact h3
              · exact absurd ((nI_leI (by omega) (by omega)).mpr (by omega)) c38
            | succ j2 ih2 =>
              intro i M2 hi2 h2 hf2
              have hfd2 := (hF.to h hf2).2.2 f (by omega)
              refine jx_iload d_R_takeBackFirst_35 rfl ?_
              refine jx_iload_n (i := 1) d_R_takeBackFirst_37 rfl rfl ?_
              refine jx_icmp_ge (tgt := 70) d_R_takeBackFirst_38 (by decide) (fun c38 => ?_) (fun c38 => ?_)
              · exact absurd ((nI_leI (by omega) (by omega)).mp c38) (by omega)
              · refine jx_aload_n (i := 0) d_R_takeBackFirst_41 rfl rfl ?_
                refine jx_getf d_R_takeBackFirst_42 gf_R_33 h2.1 rfl ?_
                refine jx_iload_n (i := 2) d_R_takeBackFirst_45 rfl rfl ?_
                refine jx_aload_n (i := 3) d_R_takeBackFirst_46 rfl rfl ?_
                refine jx_aload_n (i := 0) d_R_takeBackFirst_47 rfl rfl ?_
                refine jx_getf d_R_takeBackFirst_48 gf_R_33 h2.1 rfl ?_
                refine jx_iload_n (i := 2) d_R_takeBackFirst_51 rfl rfl ?_
                refine jx_lald (t0 := 1) d_R_takeBackFirst_52 h2.2.2.2.1 rfl (vp_in_nI (by omega) (by omega)) ?_
                refine jx_aload_n (i := 0) d_R_takeBackFirst_53 rfl rfl ?_
                refine jx_getf d_R_takeBackFirst_54 gf_R_15 h2.1 rfl ?_
                refine jx_iload d_R_takeBackFirst_57 rfl ?_
                refine jx_lald (t0 := 1) d_R_takeBackFirst_59 h2.2.2.1 rfl (vp_in_nI (by omega) (by omega)) ?_
                rw [nI_clamp (by omega), nI_clamp (by omega), vp_us]
                refine jx_callV2 d_R_takeBackFirst_60 mv_R_94 hfd2.2 rfl (jx_ok_rm (by omega) (Nat.le_of_ble_eq_true rfl)) (Nat.le_of_ble_eq_true rfl) (jx_rmc (by omega)) (jx_rms (by omega)) (c_F_stepTakenBack (d := 0) hfd2.1 hfd2.2 ?_)
                dsimp only [Option.toList, List.cons_append, List.nil_append]
                refine jx_last (t0 := 1) d_R_takeBackFirst_63 h2.2.2.2.1 rfl (vp_in_nI (by omega) (by omega)) ?_
                rw [nI_clamp (by omega), vp_uu]
                refine jx_iinc d_R_takeBackFirst_64 rfl (Nat.le_of_ble_eq_true rfl) (jx_e5_4 (by trivial)) ?_
                refine jx_goto (tgt := 35) d_R_takeBackFirst_67 (by decide) ?_
                rw [nI_1]
                exact ih2 (i + 1) _ (by omega) (by have := h2.us (vp_updL (sp_ut f (sp_n1 fd vl ss g) ss) f (sp_tk (fd f).1 (fd f).2.2.1 vl (i + 1) (ss f))); exact this) hf2.us
          refine inner g 0 M1 (by omega) ?_ hf
          have e : vp_updL (sp_ut f (sp_n1 fd vl ss g) ss) f (sp_tk (fd f).1 (fd f).2.2.1 vl 0 (ss f)) = sp_ut f (sp_n1 fd vl ss g) ss := by
            funext q
            unfold vp_updL
            by_cases hq : q = f
            · subst hq
              rw [if_pos rfl, sp_ut_f]
              rfl
            · rw [if_neg hq]
          rw [e]
          exact h1
  refine jx_iconst (v := 0) d_R_takeBackFirst_0 (by decide) ?_
  refine jx_istore_n (i := 2) d_R_takeBackFirst_1 rfl (Nat.le_of_ble_eq_true rfl) (jx_e5_2 (by trivial)) ?_
  exact loop nF 0 M (by omega) (by rw [sp_ut_0]; exact h) kr_F.rf
theorem c_R_foldTheOthersAnew (hd : 2 < d) (hn : n ≤ 60) (h : kr_H M a ta va sa nm fl nF n wk tm vl ss) (hF : kf_Fs G M fl far nF fo fd) (k : ∀ M', kr_H M' a ta va sa nm fl nF n (sp_ws (sp_c2 fd n) wk nF) tm vl (sp_ut nF (sp_n2 fd tm vl ss n) ss) → kr_F a ta va sa M M' → Z none M' sz) : jx_Cr md_R_foldTheOthersAnew G d [.ref a] M sz 0 0 Z := by
  refine jx_ent rfl (Nat.le_of_ble_eq_true rfl) (l := [some (.ref a), none, none]) (by simp [jx_le, jx_eas, Value.category]) (fun hlt => ?_)
  have hnF := hF.2.1
  have loop : ∀ (j f : Nat) (M1 : jx_H), f + j = nF → kr_H M1 a ta va sa nm fl nF n (sp_ws (sp_c2 fd n) wk f) tm vl (sp_ut f (sp_n2 fd tm vl ss n) ss) → kr_F a ta va sa M M1 → jx_V md_R_foldTheOthersAnew [] G (jx_rm d 0 0) (jx_Q1 G 0 0 Z) 2 [some (.ref a), some (.int (nI f)), none] [] M1 sz 0 0 := by
    intro j
    induction j with
    | zero =>
      intro f M1 hi h1 hf
      have hF1 := hF.to h hf
      obtain ⟨mo, hA⟩ := hF1.1.1
      refine jx_iload_n (i := 1) d_R_foldTheOthersAnew_2 rfl rfl ?_
      refine jx_aload_n (i := 0) d_R_foldTheOthersAnew_3 rfl rfl ?_
      refine jx_getf d_R_foldTheOthersAnew_4 gf_R_29 h1.1 rfl ?_
      refine jx_callV0 d_R_foldTheOthersAnew_7 mv_R_50 hA rfl (jx_ok_rm (by omega) (Nat.le_of_ble_eq_true rfl)) (Nat.le_of_ble_eq_true rfl) (jx_rmc (by omega)) (jx_rms (by omega)) (c_L_size (d := 0) hF1.1 ?_)
      dsimp only [Option.toList, List.cons_append, List.nil_append]
      refine jx_icmp_ge (tgt := 66) d_R_foldTheOthersAnew_10 (by decide) (fun c10 => ?_) (fun c10 => ?_)
      · exact jx_vret d_R_foldTheOthersAnew_66 rfl (by omega) (by omega) (by
          have e : f = nF := by omega
          subst e
          exact k _ h1 hf)
      · exact absurd ((nI_leI (by omega) (by omega)).mpr (by omega)) c10
    | succ j ih =>
      intro f M1 hi h1 hf
      have hF1 := hF.to h hf
      have hfd := hF1.2.2 f (by omega)
      obtain ⟨mo, hA⟩ := hF1.1.1
      refine jx_iload_n (i := 1) d_R_foldTheOthersAnew_2 rfl rfl ?_
      refine jx_aload_n (i := 0) d_R_foldTheOthersAnew_3 rfl rfl ?_
      refine jx_getf d_R_foldTheOthersAnew_4 gf_R_29 h1.1 rfl ?_
      refine jx_callV0 d_R_foldTheOthersAnew_7 mv_R_50 hA rfl (jx_ok_rm (by omega) (Nat.le_of_ble_eq_true rfl)) (Nat.le_of_ble_eq_true rfl) (jx_rmc (by omega)) (jx_rms (by omega)) (c_L_size (d := 0) hF1.1 ?_)
      dsimp only [Option.toList, List.cons_append, List.nil_append]
      refine jx_icmp_ge (tgt := 66) d_R_foldTheOthersAnew_10 (by decide) (fun c10 => ?_) (fun c10 => ?_)
      · exact absurd ((nI_leI (by omega) (by omega)).mp c10) (by omega)
      · refine jx_aload_n (i := 0) d_R_foldTheOthersAnew_13 rfl rfl ?_
        refine jx_getf d_R_foldTheOthersAnew_14 gf_R_29 h1.1 rfl ?_
        refine jx_iload_n (i := 1) d_R_foldTheOthersAnew_17 rfl rfl ?_
        refine jx_callV1 d_R_foldTheOthersAnew_18 mv_R_56 hA rfl (jx_ok_rm (by omega) (Nat.le_of_ble_eq_true rfl)) (Nat.le_of_ble_eq_true rfl) (jx_rmc (by omega)) (jx_rms (by omega)) (c_L_get (d := 2) (by omega) hF1.1 (by omega) ?_)
        dsimp only [Option.toList, List.cons_append, List.nil_append]
        refine jx_castn d_R_foldTheOthersAnew_21 hfd.2 rfl nk_R_60 nx_F_KeyedFolds_Fold ?_
        refine jx_astore_n (i := 2) d_R_foldTheOthersAnew_24 rfl (Nat.le_of_ble_eq_true rfl) (jx_e3_2 (by trivial)) ?_
        refine jx_aload_n (i := 2) d_R_foldTheOthersAnew_25 rfl rfl ?_
        refine jx_callV0 d_R_foldTheOthersAnew_26 mv_R_91 hfd.2 rfl (jx_ok_rm (by omega) (Nat.le_of_ble_eq_true rfl)) (Nat.le_of_ble_eq_true rfl) (jx_rmc (by omega)) (jx_rms (by omega)) (c_F_canBeTakenBack (d := 0) hfd.2 ?_)
        dsimp only [Option.toList, List.cons_append, List.nil_append]
        refine jx_if_ne (tgt := 60) d_R_foldTheOthersAnew_29 (by decide) (fun c29 => ?_) (fun c29 => ?_)
        · have ctb : sp_tb (nI (fd f).1) = true := by
            cases hq : sp_tb (nI (fd f).1) with
            | true => rfl
            | false => exact absurd ((kf_b_eq0 _).mpr hq) c29
          refine jx_iinc d_R_foldTheOthersAnew_60 rfl (Nat.le_of_ble_eq_true rfl) (jx_e3_1 (by trivial)) ?_
          refine jx_goto (tgt := 2) d_R_foldTheOthersAnew_63 (by decide) ?_
          rw [nI_1]
          refine jx_wk (l' := [some (.ref a), some (.int (nI (f + 1))), none]) (by simp [jx_le]) ?_
          refine ih (f + 1) M1 (by omega) ?_ hf
          rw [sp_ut_e (by simp [sp_n2, ctb]), show sp_ws (sp_c2 fd n) wk (f + 1) = sp_ws (sp_c2 fd n) wk f by simp [sp_ws, sp_c2, ctb]]
          exact h1
        · rw [kf_b_eq0] at c29
          refine jx_aload_n (i := 0) d_R_foldTheOthersAnew_32 rfl rfl ?_
          refine jx_getf d_R_foldTheOthersAnew_33 gf_R_33 h1.1 rfl ?_
          refine jx_iload_n (i := 1) d_R_foldTheOthersAnew_36 rfl rfl ?_
          refine jx_aload_n (i := 0) d_R_foldTheOthersAnew_37 rfl rfl ?_
          refine jx_aload_n (i := 0) d_R_foldTheOthersAnew_38 rfl rfl ?_
          refine jx_getf d_R_foldTheOthersAnew_39 gf_R_18 h1.1 rfl ?_
          refine jx_aload_n (i := 2) d_R_foldTheOthersAnew_42 rfl rfl ?_
          refine jx_callV2 d_R_foldTheOthersAnew_43 mv_R_70 h1.1 rfl (jx_ok_rm (by omega) (Nat.le_of_ble_eq_true rfl)) (Nat.le_of_ble_eq_true rfl) (jx_rmc (by omega)) (jx_rms (by omega)) (c_R_stateOfFirst (d := 2) (by omega) h1.1 h1.2.1 h1.2.2.1 hfd.2 hfd.1 hn (Nat.le_refl _) ?_)
          dsimp only [Option.toList, List.cons_append, List.nil_append]
          have h2 := h1.us (sp_ut (f + 1) (sp_n2 fd tm vl ss n) ss)
          have h3 := h2.ua n (sp_ws (sp_c2 fd n) wk f + nI n)
          refine jx_last (t0 := 1) d_R_foldTheOthersAnew_46 h1.2.2.2.1 rfl (vp_in_nI (by omega) (by omega)) ?_
          rw [nI_clamp (by omega), show sp_fo (fd f).1 (fd f).2.1 (fd f).2.2.1 tm vl n = sp_n2 fd tm vl ss n f by simp [sp_n2, c29], sp_ut_s]
          refine jx_aload_n (i := 0) d_R_foldTheOthersAnew_47 rfl rfl ?_
          refine jx_dup d_R_foldTheOthersAnew_48 rfl ?_
          refine jx_getf d_R_foldTheOthersAnew_49 gf_R_22 h2.1 rfl ?_
          refine jx_aload_n (i := 0) d_R_foldTheOthersAnew_52 rfl rfl ?_
          refine jx_getf d_R_foldTheOthersAnew_53 gf_R_18 h2.1 rfl ?_
          refine jx_iadd d_R_foldTheOthersAnew_56 ?_
          refine jx_putf d_R_foldTheOthersAnew_57 pf_R_22 h2.1 (Nat.le_of_ble_eq_true rfl) rfl rfl ?_
          refine jx_iinc d_R_foldTheOthersAnew_60 rfl (Nat.le_of_ble_eq_true rfl) (jx_e3_1 (by trivial)) ?_
          refine jx_goto (tgt := 2) d_R_foldTheOthersAnew_63 (by decide) ?_
          rw [nI_1]
          refine jx_wk (l' := [some (.ref a), some (.int (nI (f + 1))), none]) (by simp [jx_le]) ?_
          refine ih (f + 1) _ (by omega) ?_ hf.us.ua
          rw [show sp_ws (sp_c2 fd n) wk (f + 1) = sp_ws (sp_c2 fd n) wk f + nI n by simp [sp_ws, sp_c2, c29]]
          exact h3
  refine jx_iconst (v := 0) d_R_foldTheOthersAnew_0 (by decide) ?_
  refine jx_istore_n (i := 1) d_R_foldTheOthersAnew_1 rfl (Nat.le_of_ble_eq_true rfl) (jx_e3_1 (by trivial)) ?_
  exact loop nF 0 M (by omega) (by rw [sp_ut_0]; exact h) kr_F.rf
end CR3
end
section
/-! PART 20: KeyRows: take, leaveBelow, the two looks, the constructor -/
theorem i_dec (i : Nat) : nI i + (-1) = nI i - 1 := by
  cases i with
  | zero => decide
  | succ j => rw [pk_m1, nI_pred]
section CR4
variable {G : jx_G} {d a ta va sa fl far nF sz n g : Nat} {nm t v : Int64} {wk : Int32} {tm vl ss : Nat → Int64} {fo : Nat → Nat} {fd : sp_fd} {M : jx_H} {Z : Option Value → jx_H → Nat → Prop}
theorem c_R_take {pl : Nat} {tm' vl' : Nat → Int64} (hd : 3 < d) (hn : n < 60) (hpl : pl = sp_ld (fun j => decide (tm j < t + 1)) n) (htm : tm' = sp_in tm n pl t) (hvl : vl' = sp_in vl n pl v) (h : kr_H M a ta va sa nm fl nF n wk tm vl ss) (hF : kf_Fs G M fl far nF fo fd) (k : ∀ M', kr_H M' a ta va sa nm fl nF (n + 1) (sp_ws (sp_c3 fd (n + 1) pl) wk nF) tm' vl' (sp_ut nF (sp_n3 fd tm' vl' ss (n + 1) pl) ss) → kr_F a ta va sa M M' → Z none M' sz) : jx_Cr md_R_take G d [.ref a, .long t, .long v] M sz 0 0 Z := by
  refine jx_ent rfl (Nat.le_of_ble_eq_true rfl) (l := [some (.ref a), some (.long t), none, some (.long v), none, none, none, none, none]) (by simp [jx_le, jx_eas, Value.category]) (fun hlt => ?_)
  have hnF := hF.2.1
  have hple : pl ≤ n := by rw [hpl]; exact sp_ld_le _ _
  have loop : ∀ (b : Bool), b = decide (pl = n) → ∀ (j f : Nat) (M1 : jx_H), f + j = nF → kr_H M1 a ta va sa nm fl nF (n + 1) (sp_ws (sp_c3 fd (n + 1) pl) wk f) tm' vl' (sp_ut f (sp_n3 fd tm' vl' ss (n + 1) pl) ss) → kr_F a ta va sa M M1 → jx_V md_R_take [] G (jx_rm d 0 0) (jx_Q1 G 0 0 Z) 48 [some (.ref a), some (.long t), none, some (.long v), none, some (.int (nI pl)), some (.int (kf_b b)), some (.int (nI f)), none] [] M1 sz 0 0 := by
    intro b hb j
    induction j with
    | zero =>
      intro f M1 hi h1 hf
      have hF1 := hF.to h hf
      obtain ⟨mo, hA⟩ := hF1.1.1
      refine jx_iload d_R_take_48 rfl ?_
      refine jx_aload_n (i := 0) d_R_take_50 rfl rfl ?_
      refine jx_getf d_R_take_51 gf_R_29 h1.1 rfl ?_
      refine jx_callV0 d_R_take_54 mv_R_50 hA rfl (jx_ok_rm (by omega) (Nat.le_of_ble_eq_true rfl)) (Nat.le_of_ble_eq_true rfl) (jx_rmc (by omega)) (jx_rms (by omega)) (c_L_size (d := 0) hF1.1 ?_)
      dsimp only [Option.toList, List.cons_append, List.nil_append]
      refine jx_icmp_ge (tgt := 158) d_R_take_57 (by decide) (fun c57 => ?_) (fun c57 => ?_)
      · exact jx_vret d_R_take_158 rfl (by omega) (by omega) (by
          have e : f = nF := by omega
          subst e
          exact k _ h1 hf)
      · exact absurd ((nI_leI (by omega) (by omega)).mpr (by omega)) c57
    | succ j ih =>
      intro f M1 hi h1 hf
      have hF1 := hF.to h hf
      have hfd := hF1.2.2 f (by omega)
      obtain ⟨mo, hA⟩ := hF1.1.1
      have hone : (decide (pl = n + 1 - 1) || sp_mj (nI (fd f).1)) = true → jx_V md_R_take [] G (jx_rm d 0 0) (jx_Q1 G 0 0 Z) 87 [some (.ref a), some (.long t), none, some (.long v), none, some (.int (nI pl)), some (.int (kf_b b)), some (.int (nI f)), some (.ref (fo f))] [] M1 sz 0 0 := by
        intro hor
        refine jx_aload_n (i := 0) d_R_take_87 rfl rfl ?_
        refine jx_getf d_R_take_88 gf_R_33 h1.1 rfl ?_
        refine jx_iload d_R_take_91 rfl ?_
        refine jx_aload_n (i := 0) d_R_take_93 rfl rfl ?_
        refine jx_iload d_R_take_94 rfl ?_
        refine jx_aload d_R_take_96 rfl ?_
        refine jx_aload_n (i := 0) d_R_take_98 rfl rfl ?_
        refine jx_getf d_R_take_99 gf_R_33 h1.1 rfl ?_
        refine jx_iload d_R_take_102 rfl ?_
        refine jx_lald (t0 := 1) d_R_take_104 h1.2.2.2.1 rfl (vp_in_nI (by omega) (by omega)) ?_
        rw [nI_clamp (by omega), sp_ut_f]
        refine jx_callV3 d_R_take_105 mv_R_66 h1.1 rfl (jx_ok_rm (by omega) (Nat.le_of_ble_eq_true rfl)) (Nat.le_of_ble_eq_true rfl) (jx_rmc (by omega)) (jx_rms (by omega)) (c_R_stepAt (d := 1) (by omega) h1.1 h1.2.1 h1.2.2.1 hfd.2 hfd.1 (by omega) ?_)
        dsimp only [Option.toList, List.cons_append, List.nil_append]
        have h2 := h1.us (sp_ut (f + 1) (sp_n3 fd tm' vl' ss (n + 1) pl) ss)
        have h3 := h2.ua (n + 1) (sp_ws (sp_c3 fd (n + 1) pl) wk f + 1)
        refine jx_last (t0 := 1) d_R_take_108 h1.2.2.2.1 rfl (vp_in_nI (by omega) (by omega)) ?_
        rw [nI_clamp (by omega), show sp_sa (fd f).1 (fd f).2.2.1 tm' vl' pl (ss f) = sp_n3 fd tm' vl' ss (n + 1) pl f by simp only [sp_n3]; rw [if_pos hor], sp_ut_s]
        refine jx_aload_n (i := 0) d_R_take_109 rfl rfl ?_
        refine jx_dup d_R_take_110 rfl ?_
        refine jx_getf d_R_take_111 gf_R_22 h2.1 rfl ?_
        refine jx_iconst (v := 1) d_R_take_114 (by decide) ?_
        refine jx_iadd d_R_take_115 ?_
        refine jx_putf d_R_take_116 pf_R_22 h2.1 (Nat.le_of_ble_eq_true rfl) rfl rfl ?_
        refine jx_goto (tgt := 152) d_R_take_119 (by decide) ?_
        refine jx_iinc d_R_take_152 rfl (Nat.le_of_ble_eq_true rfl) (jx_e9_7 (by trivial)) ?_
        refine jx_goto (tgt := 48) d_R_take_155 (by decide) ?_
        rw [nI_1]
        refine jx_wk (l' := [some (.ref a), some (.long t), none, some (.long v), none, some (.int (nI pl)), some (.int (kf_b b)), some (.int (nI (f + 1))), none]) (by simp [jx_le]) ?_
        refine ih (f + 1) _ (by omega) ?_ hf.us.ua
        rw [show sp_ws (sp_c3 fd (n + 1) pl) wk (f + 1) = sp_ws (sp_c3 fd (n + 1) pl) wk f + 1 by simp only [sp_ws, sp_c3]; rw [if_pos hor]]
        exact h3
      refine jx_iload d_R_take_48 rfl ?_
      refine jx_aload_n (i := 0) d_R_take_50 rfl rfl ?_
      refine jx_getf d_R_take_51 gf_R_29 h1.1 rfl ?_
      refine jx_callV0 d_R_take_54 mv_R_50 hA rfl (jx_ok_rm (by omega) (Nat.le_of_ble_eq_true rfl)) (Nat.le_of_ble_eq_true rfl) (jx_rmc (by omega)) (jx_rms (by omega)) (c_L_size (d := 0) hF1.1 ?_)
      dsimp only [Option.toList, List.cons_append, List.nil_append]
      refine jx_icmp_ge (tgt := 158) d_R_take_57 (by decide) (fun c57 => ?_) (fun c57 => ?_)
      · exact absurd ((nI_leI (by omega) (by omega)).mp c57) (by omega)
      · refine jx_aload_n (i := 0) d_R_take_60 rfl rfl ?_
        refine jx_getf d_R_take_61 gf_R_29 h1.1 rfl ?_
        refine jx_iload d_R_take_64 rfl ?_
        refine jx_callV1 d_R_take_66 mv_R_56 hA rfl (jx_ok_rm (by omega) (Nat.le_of_ble_eq_true rfl)) (Nat.le_of_ble_eq_true rfl) (jx_rmc (by omega)) (jx_rms (by omega)) (c_L_get (d := 2) (by omega) hF1.1 (by omega) ?_)
        dsimp only [Option.toList, List.cons_append, List.nil_append]
        refine jx_castn d_R_take_69 hfd.2 rfl nk_R_60 nx_F_KeyedFolds_Fold ?_
        refine jx_astore d_R_take_72 (Nat.le_of_ble_eq_true rfl) (jx_e9_8 (by trivial)) ?_
        refine jx_iload d_R_take_74 rfl ?_
        refine jx_if_ne (tgt := 87) d_R_take_76 (by decide) (fun c76 => ?_) (fun c76 => ?_)
        · exact hone (by
            cases hq : b with
            | true => rw [hq] at hb; rw [show n + 1 - 1 = n by omega, ← hb]; rfl
            | false => rw [hq] at c76; exact absurd rfl c76)
        · have hbf : b = false := (kf_b_eq0 b).mp c76
          refine jx_aload d_R_take_79 rfl ?_
          refine jx_callV0 d_R_take_81 mv_R_62 hfd.2 rfl (jx_ok_rm (by omega) (Nat.le_of_ble_eq_true rfl)) (Nat.le_of_ble_eq_true rfl) (jx_rmc (by omega)) (jx_rms (by omega)) (c_F_mayBeJoined (d := 1) (by omega) hfd.2 ?_)
          dsimp only [Option.toList, List.cons_append, List.nil_append]
          refine jx_if_eq (tgt := 122) d_R_take_84 (by decide) (fun c84 => ?_) (fun c84 => ?_)
          · rw [kf_b_eq0] at c84
            have hor : ¬ (decide (pl = n + 1 - 1) || sp_mj (nI (fd f).1)) = true := by
              rw [show n + 1 - 1 = n by omega, ← hb, hbf, c84]
              simp
            refine jx_aload_n (i := 0) d_R_take_122 rfl rfl ?_
            refine jx_getf d_R_take_123 gf_R_33 h1.1 rfl ?_
            refine jx_iload d_R_take_126 rfl ?_
            refine jx_aload_n (i := 0) d_R_take_128 rfl rfl ?_
            refine jx_aload_n (i := 0) d_R_take_129 rfl rfl ?_
            refine jx_getf d_R_take_130 gf_R_18 h1.1 rfl ?_
            refine jx_aload d_R_take_133 rfl ?_
            refine jx_callV2 d_R_take_135 mv_R_70 h1.1 rfl (jx_ok_rm (by omega) (Nat.le_of_ble_eq_true rfl)) (Nat.le_of_ble_eq_true rfl) (jx_rmc (by omega)) (jx_rms (by omega)) (c_R_stateOfFirst (d := 2) (by omega) h1.1 h1.2.1 h1.2.2.1 hfd.2 hfd.1 (by omega) (Nat.le_refl _) ?_)
            dsimp only [Option.toList, List.cons_append, List.nil_append]
            have h2 := h1.us (sp_ut (f + 1) (sp_n3 fd tm' vl' ss (n + 1) pl) ss)
            have h3 := h2.ua (n + 1) (sp_ws (sp_c3 fd (n + 1) pl) wk f + nI (n + 1))
            refine jx_last (t0 := 1) d_R_take_138 h1.2.2.2.1 rfl (vp_in_nI (by omega) (by omega)) ?_
            rw [nI_clamp (by omega), show sp_fo (fd f).1 (fd f).2.1 (fd f).2.2.1 tm' vl' (n + 1) = sp_n3 fd tm' vl' ss (n + 1) pl f by simp only [sp_n3]; rw [if_neg hor], sp_ut_s]
            refine jx_aload_n (i := 0) d_R_take_139 rfl rfl ?_
            refine jx_dup d_R_take_140 rfl ?_
            refine jx_getf d_R_take_141 gf_R_22 h2.1 rfl ?_
            refine jx_aload_n (i := 0) d_R_take_144 rfl rfl ?_
            refine jx_getf d_R_take_145 gf_R_18 h2.1 rfl ?_
            refine jx_iadd d_R_take_148 ?_
            refine jx_putf d_R_take_149 pf_R_22 h2.1 (Nat.le_of_ble_eq_true rfl) rfl rfl ?_
            refine jx_iinc d_R_take_152 rfl (Nat.le_of_ble_eq_true rfl) (jx_e9_7 (by trivial)) ?_
            refine jx_goto (tgt := 48) d_R_take_155 (by decide) ?_
            rw [nI_1]
            refine jx_wk (l' := [some (.ref a), some (.long t), none, some (.long v), none, some (.int (nI pl)), some (.int (kf_b b)), some (.int (nI (f + 1))), none]) (by simp [jx_le]) ?_
            refine ih (f + 1) _ (by omega) ?_ hf.us.ua
            rw [show sp_ws (sp_c3 fd (n + 1) pl) wk (f + 1) = sp_ws (sp_c3 fd (n + 1) pl) wk f + nI (n + 1) by simp only [sp_ws, sp_c3]; rw [if_neg hor]]
            exact h3
          · exact hone (by
              cases hq : sp_mj (nI (fd f).1) with
              | true => simp
              | false => rw [hq] at c84; exact absurd rfl c84)
  refine jx_aload_n (i := 0) d_R_take_0 rfl rfl ?_
  refine jx_getf d_R_take_1 gf_R_18 h.1 rfl ?_
  refine jx_bipush (v := 60) d_R_take_4 (by decide) ?_
  refine jx_icmp_lt (tgt := 10) d_R_take_6 (by decide) (fun c6 => ?_) (fun c6 => ?_)
  · refine jx_aload_n (i := 0) d_R_take_10 rfl rfl ?_
    refine jx_lload_n (i := 1) d_R_take_11 rfl rfl ?_
    refine jx_lconst (v := 1) d_R_take_12 (by decide) ?_
    refine jx_ladd d_R_take_13 ?_
    refine jx_callV1 d_R_take_14 mv_R_42 h.1 rfl (jx_ok_rm (by omega) (Nat.le_of_ble_eq_true rfl)) (Nat.le_of_ble_eq_true rfl) (jx_rmc (by omega)) (jx_rms (by omega)) (c_R_countBelow (d := 0) h.1 h.2.1 (by omega) ?_)
    dsimp only [Option.toList, List.cons_append, List.nil_append]
    rw [← hpl]
    refine jx_istore d_R_take_17 (Nat.le_of_ble_eq_true rfl) (jx_e9_5 (by trivial)) ?_
    refine jx_aload_n (i := 0) d_R_take_19 rfl rfl ?_
    refine jx_iload d_R_take_20 rfl ?_
    refine jx_lload_n (i := 1) d_R_take_22 rfl rfl ?_
    refine jx_lload_n (i := 3) d_R_take_23 rfl rfl ?_
    refine jx_callV3 d_R_take_24 mv_R_46 h.1 rfl (jx_ok_rm (by omega) (Nat.le_of_ble_eq_true rfl)) (Nat.le_of_ble_eq_true rfl) (jx_rmc (by omega)) (jx_rms (by omega)) (c_R_insert (d := 0) hple hn h ?_)
    dsimp only [Option.toList, List.cons_append, List.nil_append]
    intro M1 h1 hf
    rw [← htm, ← hvl] at h1
    try dsimp only [Option.toList, List.cons_append, List.nil_append]
    refine jx_iload d_R_take_27 rfl ?_
    refine jx_aload_n (i := 0) d_R_take_29 rfl rfl ?_
    refine jx_getf d_R_take_30 gf_R_18 h1.1 rfl ?_
    refine jx_iconst (v := 1) d_R_take_33 (by decide) ?_
    refine jx_isub d_R_take_34 ?_
    rw [nI_pred]
    refine jx_icmp_ne (tgt := 42) d_R_take_35 (by decide) (fun c35 => ?_) (fun c35 => ?_)
    · refine jx_iconst (v := 0) d_R_take_42 (by decide) ?_
      refine jx_istore d_R_take_43 (Nat.le_of_ble_eq_true rfl) (jx_e9_6 (by trivial)) ?_
      refine jx_iconst (v := 0) d_R_take_45 (by decide) ?_
      refine jx_istore d_R_take_46 (Nat.le_of_ble_eq_true rfl) (jx_e9_7 (by trivial)) ?_
      exact loop false (by rw [decide_eq_false (fun q => c35 (by rw [q]))]) nF 0 M1 (by omega) (by rw [sp_ut_0]; exact h1) hf
    · refine jx_iconst (v := 1) d_R_take_38 (by decide) ?_
      refine jx_goto (tgt := 43) d_R_take_39 (by decide) ?_
      refine jx_istore d_R_take_43 (Nat.le_of_ble_eq_true rfl) (jx_e9_6 (by trivial)) ?_
      refine jx_iconst (v := 0) d_R_take_45 (by decide) ?_
      refine jx_istore d_R_take_46 (Nat.le_of_ble_eq_true rfl) (jx_e9_7 (by trivial)) ?_
      exact loop true (by rw [decide_eq_true ((nI_eq (by omega) (by omega)).mp c35)]) nF 0 M1 (by omega) (by rw [sp_ut_0]; exact h1) hf
  · exact absurd (nI_lt (b := 60) hn (by omega)) c6
theorem c_R_leaveBelow (hd : 3 < d) (hn : n ≤ 60) (hg : g = sp_ld (fun j => decide (tm j < t)) n) (h : kr_H M a ta va sa nm fl nF n wk tm vl ss) (hF : kf_Fs G M fl far nF fo fd) (k0 : g = 0 → Z (some (.int (nI 0))) M sz)
    (k : 0 < g → ∀ M', kr_H M' a ta va sa nm fl nF (n - g) (sp_ws (sp_c2 fd (n - g)) (sp_ws (sp_c1 fd g) wk nF) nF) (sp_rm tm n g) (sp_rm vl n g) (sp_ut nF (sp_n2 fd (sp_rm tm n g) (sp_rm vl n g) (sp_ut nF (sp_n1 fd vl ss g) ss) (n - g)) (sp_ut nF (sp_n1 fd vl ss g) ss)) → kr_F a ta va sa M M' → Z (some (.int (nI g))) M' sz) : jx_Cr md_R_leaveBelow G d [.ref a, .long t] M sz 0 0 Z := by
  refine jx_ent rfl (Nat.le_of_ble_eq_true rfl) (l := [some (.ref a), some (.long t), none, none]) (by simp [jx_le, jx_eas, Value.category]) (fun hlt => ?_)
  have hgn : g ≤ n := by rw [hg]; exact sp_ld_le _ _
  refine jx_aload_n (i := 0) d_R_leaveBelow_0 rfl rfl ?_
  refine jx_lload_n (i := 1) d_R_leaveBelow_1 rfl rfl ?_
  refine jx_callV1 d_R_leaveBelow_2 mv_R_42 h.1 rfl (jx_ok_rm (by omega) (Nat.le_of_ble_eq_true rfl)) (Nat.le_of_ble_eq_true rfl) (jx_rmc (by omega)) (jx_rms (by omega)) (c_R_countBelow (d := 0) h.1 h.2.1 (by omega) ?_)
  dsimp only [Option.toList, List.cons_append, List.nil_append]
  rw [← hg]
  refine jx_istore_n (i := 3) d_R_leaveBelow_5 rfl (Nat.le_of_ble_eq_true rfl) (jx_e4_3 (by trivial)) ?_
  refine jx_iload_n (i := 3) d_R_leaveBelow_6 rfl rfl ?_
  refine jx_if_le (tgt := 24) d_R_leaveBelow_7 (by decide) (fun c7 => ?_) (fun c7 => ?_)
  · have e : g = 0 := by have := (nI_leI (b := 0) (by omega) (by omega)).mp c7; omega
    refine jx_iload_n (i := 3) d_R_leaveBelow_24 rfl rfl ?_
    exact jx_iret d_R_leaveBelow_25 rfl (by omega) (by omega) (by rw [e]; exact k0 e)
  · have e : 0 < g := by
      rcases Nat.eq_zero_or_pos g with q | q
      · exact absurd (by rw [q]; decide) c7
      · exact q
    refine jx_aload_n (i := 0) d_R_leaveBelow_10 rfl rfl ?_
    refine jx_iload_n (i := 3) d_R_leaveBelow_11 rfl rfl ?_
    refine jx_callV1 d_R_leaveBelow_12 mv_R_74 h.1 rfl (jx_ok_rm (by omega) (Nat.le_of_ble_eq_true rfl)) (Nat.le_of_ble_eq_true rfl) (jx_rmc (by omega)) (jx_rms (by omega)) (c_R_takeBackFirst (d := 3) (by omega) hgn hn h hF ?_)
    dsimp only [Option.toList, List.cons_append, List.nil_append]
    intro M1 h1 hf1
    try dsimp only [Option.toList, List.cons_append, List.nil_append]
    refine jx_aload_n (i := 0) d_R_leaveBelow_15 rfl rfl ?_
    refine jx_iload_n (i := 3) d_R_leaveBelow_16 rfl rfl ?_
    refine jx_callV1 d_R_leaveBelow_17 mv_R_78 h1.1 rfl (jx_ok_rm (by omega) (Nat.le_of_ble_eq_true rfl)) (Nat.le_of_ble_eq_true rfl) (jx_rmc (by omega)) (jx_rms (by omega)) (c_R_removeFirst (d := 0) e hgn hn h1 ?_)
    dsimp only [Option.toList, List.cons_append, List.nil_append]
    intro M2 h2 hf2
    try dsimp only [Option.toList, List.cons_append, List.nil_append]
    refine jx_aload_n (i := 0) d_R_leaveBelow_20 rfl rfl ?_
    refine jx_callV0 d_R_leaveBelow_21 mv_R_81 h2.1 rfl (jx_ok_rm (by omega) (Nat.le_of_ble_eq_true rfl)) (Nat.le_of_ble_eq_true rfl) (jx_rmc (by omega)) (jx_rms (by omega)) (c_R_foldTheOthersAnew (d := 3) (by omega) (by omega) h2 (hF.to h (hf1.tr hf2)) ?_)
    dsimp only [Option.toList, List.cons_append, List.nil_append]
    intro M3 h3 hf3
    try dsimp only [Option.toList, List.cons_append, List.nil_append]
    refine jx_iload_n (i := 3) d_R_leaveBelow_24 rfl rfl ?_
    exact jx_iret d_R_leaveBelow_25 rfl (by omega) (by omega) (k e _ h3 (hf1.tr (hf2.tr hf3)))
theorem c_R_folded (hd : 2 < d) (hn : n ≤ 60) (h : kr_H M a ta va sa nm fl nF n wk tm vl ss) (hF : kf_Fs G M fl far nF fo fd) (hs : ∀ f, f < nF → ss f = sp_fo (fd f).1 (fd f).2.1 (fd f).2.2.1 tm vl n) (k : Z (some (.int 1)) M sz) : jx_Cr md_R_statesAreThoseFoldedAnew G d [.ref a] M sz 0 0 Z := by
  refine jx_ent rfl (Nat.le_of_ble_eq_true rfl) (l := [some (.ref a), none]) (by simp [jx_le, jx_eas, Value.category]) (fun hlt => ?_)
  have hnF := hF.2.1
  obtain ⟨mo, hA⟩ := hF.1.1
  have loop : ∀ (j f : Nat), f + j = nF → jx_V md_R_statesAreThoseFoldedAnew [] G (jx_rm d 0 0) (jx_Q1 G 0 0 Z) 2 [some (.ref a), some (.int (nI f))] [] M sz 0 0 := by
    intro j
    induction j with
    | zero =>
      intro f hi
      refine jx_iload_n (i := 1) d_R_statesAreThoseFoldedAnew_2 rfl rfl ?_
      refine jx_aload_n (i := 0) d_R_statesAreThoseFoldedAnew_3 rfl rfl ?_
      refine jx_getf d_R_statesAreThoseFoldedAnew_4 gf_R_29 h.1 rfl ?_
      refine jx_callV0 d_R_statesAreThoseFoldedAnew_7 mv_R_50 hA rfl (jx_ok_rm (by omega) (Nat.le_of_ble_eq_true rfl)) (Nat.le_of_ble_eq_true rfl) (jx_rmc (by omega)) (jx_rms (by omega)) (c_L_size (d := 0) hF.1 ?_)
      dsimp only [Option.toList, List.cons_append, List.nil_append]
      refine jx_icmp_ge (tgt := 50) d_R_statesAreThoseFoldedAnew_10 (by decide) (fun c10 => ?_) (fun c10 => ?_)
      · refine jx_iconst (v := 1) d_R_statesAreThoseFoldedAnew_50 (by decide) ?_
        exact jx_zret d_R_statesAreThoseFoldedAnew_51 rfl (by first | exact Or.inl rfl | exact Or.inr rfl) (by omega) (by omega) k
      · exact absurd ((nI_leI (by omega) (by omega)).mpr (by omega)) c10
    | succ j ih =>
      intro f hi
      have hfd := hF.2.2 f (by omega)
      refine jx_iload_n (i := 1) d_R_statesAreThoseFoldedAnew_2 rfl rfl ?_
      refine jx_aload_n (i := 0) d_R_statesAreThoseFoldedAnew_3 rfl rfl ?_
      refine jx_getf d_R_statesAreThoseFoldedAnew_4 gf_R_29 h.1 rfl ?_
      refine jx_callV0 d_R_statesAreThoseFoldedAnew_7 mv_R_50 hA rfl (jx_ok_rm (by omega) (Nat.le_of_ble_eq_true rfl)) (Nat.le_of_ble_eq_true rfl) (jx_rmc (by omega)) (jx_rms (by omega)) (c_L_size (d := 0) hF.1 ?_)
      dsimp only [Option.toList, List.cons_append, List.nil_append]
      refine jx_icmp_ge (tgt := 50) d_R_statesAreThoseFoldedAnew_10 (by decide) (fun c10 => ?_) (fun c10 => ?_)
      · exact absurd ((nI_leI (by omega) (by omega)).mp c10) (by omega)
      · refine jx_aload_n (i := 0) d_R_statesAreThoseFoldedAnew_13 rfl rfl ?_
        refine jx_getf d_R_statesAreThoseFoldedAnew_14 gf_R_33 h.1 rfl ?_
        refine jx_iload_n (i := 1) d_R_statesAreThoseFoldedAnew_17 rfl rfl ?_
        refine jx_lald (t0 := 1) d_R_statesAreThoseFoldedAnew_18 h.2.2.2.1 rfl (vp_in_nI (by omega) (by omega)) ?_
        rw [nI_clamp (by omega), hs f (by omega)]
        refine jx_aload_n (i := 0) d_R_statesAreThoseFoldedAnew_19 rfl rfl ?_
        refine jx_aload_n (i := 0) d_R_statesAreThoseFoldedAnew_20 rfl rfl ?_
        refine jx_getf d_R_statesAreThoseFoldedAnew_21 gf_R_18 h.1 rfl ?_
        refine jx_aload_n (i := 0) d_R_statesAreThoseFoldedAnew_24 rfl rfl ?_
        refine jx_getf d_R_statesAreThoseFoldedAnew_25 gf_R_29 h.1 rfl ?_
        refine jx_iload_n (i := 1) d_R_statesAreThoseFoldedAnew_28 rfl rfl ?_
        refine jx_callV1 d_R_statesAreThoseFoldedAnew_29 mv_R_56 hA rfl (jx_ok_rm (by omega) (Nat.le_of_ble_eq_true rfl)) (Nat.le_of_ble_eq_true rfl) (jx_rmc (by omega)) (jx_rms (by omega)) (c_L_get (d := 2) (by omega) hF.1 (by omega) ?_)
        dsimp only [Option.toList, List.cons_append, List.nil_append]
        refine jx_castn d_R_statesAreThoseFoldedAnew_32 hfd.2 rfl nk_R_60 nx_F_KeyedFolds_Fold ?_
        refine jx_callV2 d_R_statesAreThoseFoldedAnew_35 mv_R_70 h.1 rfl (jx_ok_rm (by omega) (Nat.le_of_ble_eq_true rfl)) (Nat.le_of_ble_eq_true rfl) (jx_rmc (by omega)) (jx_rms (by omega)) (c_R_stateOfFirst (d := 2) (by omega) h.1 h.2.1 h.2.2.1 hfd.2 hfd.1 hn (Nat.le_refl _) ?_)
        dsimp only [Option.toList, List.cons_append, List.nil_append]
        refine jx_l_eq (tgt := 44) d_R_statesAreThoseFoldedAnew_38 d_R_statesAreThoseFoldedAnew_39 (by decide) (fun c38 => ?_) (fun c38 => ?_)
        · refine jx_iinc d_R_statesAreThoseFoldedAnew_44 rfl (Nat.le_of_ble_eq_true rfl) (jx_e2_1 (by trivial)) ?_
          refine jx_goto (tgt := 2) d_R_statesAreThoseFoldedAnew_47 (by decide) ?_
          rw [nI_1]
          exact ih (f + 1) (by omega)
        · exact absurd rfl c38
  refine jx_iconst (v := 0) d_R_statesAreThoseFoldedAnew_0 (by decide) ?_
  refine jx_istore_n (i := 1) d_R_statesAreThoseFoldedAnew_1 rfl (Nat.le_of_ble_eq_true rfl) (jx_e2_1 (by trivial)) ?_
  exact loop nF 0 (by omega)
theorem c_R_back {f : Nat} (hd : 2 < d) (hn : n ≤ 60) (hf : f < nF) (h : kr_H M a ta va sa nm fl nF n wk tm vl ss) (hF : kf_Fs G M fl far nF fo fd) (k : Z (some (.int (kf_b (sp_bw (fd f).1 (fd f).2.2.1 tm vl n (fd f).2.1 == ss f)))) M sz) : jx_Cr md_R_stateIsThatFoldedBackwards G d [.ref a, .int (nI f)] M sz 0 0 Z := by
  refine jx_ent rfl (Nat.le_of_ble_eq_true rfl) (l := [some (.ref a), some (.int (nI f)), none, none, none, none]) (by simp [jx_le, jx_eas, Value.category]) (fun hlt => ?_)
  have hnF := hF.2.1
  obtain ⟨mo, hA⟩ := hF.1.1
  have hfd := hF.2.2 f hf
  have loop : ∀ (i : Nat) (s : Int64), i ≤ n → sp_bw (fd f).1 (fd f).2.2.1 tm vl i s = sp_bw (fd f).1 (fd f).2.2.1 tm vl n (fd f).2.1 → jx_V md_R_stateIsThatFoldedBackwards [] G (jx_rm d 0 0) (jx_Q1 G 0 0 Z) 25 [some (.ref a), some (.int (nI f)), some (.ref (fo f)), some (.long s), none, some (.int (nI i - 1))] [] M sz 0 0 := by
    intro i
    induction i with
    | zero =>
      intro s hi hs
      refine jx_iload d_R_stateIsThatFoldedBackwards_25 rfl ?_
      refine jx_if_lt (tgt := 45) d_R_stateIsThatFoldedBackwards_27 (by decide) (fun c27 => ?_) (fun c27 => ?_)
      · refine jx_lload_n (i := 3) d_R_stateIsThatFoldedBackwards_45 rfl rfl ?_
        refine jx_aload_n (i := 0) d_R_stateIsThatFoldedBackwards_46 rfl rfl ?_
        refine jx_getf d_R_stateIsThatFoldedBackwards_47 gf_R_33 h.1 rfl ?_
        refine jx_iload_n (i := 1) d_R_stateIsThatFoldedBackwards_50 rfl rfl ?_
        refine jx_lald (t0 := 1) d_R_stateIsThatFoldedBackwards_51 h.2.2.2.1 rfl (vp_in_nI (by omega) (by omega)) ?_
        refine jx_l_ne (tgt := 60) d_R_stateIsThatFoldedBackwards_52 d_R_stateIsThatFoldedBackwards_53 (by decide) (fun c52 => ?_) (fun c52 => ?_)
        · refine jx_iconst (v := 0) d_R_stateIsThatFoldedBackwards_60 (by decide) ?_
          exact jx_zret d_R_stateIsThatFoldedBackwards_61 rfl (by first | exact Or.inl rfl | exact Or.inr rfl) (by omega) (by omega) (by
            rw [nI_clamp (by omega)] at c52
            rw [← hs] at k
            rw [show (sp_bw (fd f).1 (fd f).2.2.1 tm vl 0 s == ss f) = false from by simpa [sp_bw] using c52] at k
            exact k)
        · refine jx_iconst (v := 1) d_R_stateIsThatFoldedBackwards_56 (by decide) ?_
          refine jx_goto (tgt := 61) d_R_stateIsThatFoldedBackwards_57 (by decide) ?_
          exact jx_zret d_R_stateIsThatFoldedBackwards_61 rfl (by first | exact Or.inl rfl | exact Or.inr rfl) (by omega) (by omega) (by
            rw [nI_clamp (by omega)] at c52
            rw [← hs] at k
            rw [show (sp_bw (fd f).1 (fd f).2.2.1 tm vl 0 s == ss f) = true from by simpa [sp_bw] using c52] at k
            exact k)
      · exact absurd (by decide) c27
    | succ i ih =>
      intro s hi hs
      rw [nI_pred]
      refine jx_iload d_R_stateIsThatFoldedBackwards_25 rfl ?_
      refine jx_if_lt (tgt := 45) d_R_stateIsThatFoldedBackwards_27 (by decide) (fun c27 => ?_) (fun c27 => ?_)
      · exact absurd c27 (nI_pos (by omega))
      · refine jx_aload_n (i := 0) d_R_stateIsThatFoldedBackwards_30 rfl rfl ?_
        refine jx_iload d_R_stateIsThatFoldedBackwards_31 rfl ?_
        refine jx_aload_n (i := 2) d_R_stateIsThatFoldedBackwards_33 rfl rfl ?_
        refine jx_lload_n (i := 3) d_R_stateIsThatFoldedBackwards_34 rfl rfl ?_
        refine jx_callV3 d_R_stateIsThatFoldedBackwards_35 mv_R_66 h.1 rfl (jx_ok_rm (by omega) (Nat.le_of_ble_eq_true rfl)) (Nat.le_of_ble_eq_true rfl) (jx_rmc (by omega)) (jx_rms (by omega)) (c_R_stepAt (d := 1) (by omega) h.1 h.2.1 h.2.2.1 hfd.2 hfd.1 (by omega) ?_)
        dsimp only [Option.toList, List.cons_append, List.nil_append]
        refine jx_lstore_n (i := 3) d_R_stateIsThatFoldedBackwards_38 rfl (Nat.le_of_ble_eq_true rfl) (jx_f6_3 (by trivial)) ?_
        refine jx_iincM d_R_stateIsThatFoldedBackwards_39 rfl (Nat.le_of_ble_eq_true rfl) (jx_e6_5 (by trivial)) ?_
        refine jx_goto (tgt := 25) d_R_stateIsThatFoldedBackwards_42 (by decide) ?_
        rw [i_dec]
        exact ih _ (by omega) hs
  refine jx_aload_n (i := 0) d_R_stateIsThatFoldedBackwards_0 rfl rfl ?_
  refine jx_getf d_R_stateIsThatFoldedBackwards_1 gf_R_29 h.1 rfl ?_
  refine jx_iload_n (i := 1) d_R_stateIsThatFoldedBackwards_4 rfl rfl ?_
  refine jx_callV1 d_R_stateIsThatFoldedBackwards_5 mv_R_56 hA rfl (jx_ok_rm (by omega) (Nat.le_of_ble_eq_true rfl)) (Nat.le_of_ble_eq_true rfl) (jx_rmc (by omega)) (jx_rms (by omega)) (c_L_get (d := 2) (by omega) hF.1 hf ?_)
  dsimp only [Option.toList, List.cons_append, List.nil_append]
  refine jx_castn d_R_stateIsThatFoldedBackwards_8 hfd.2 rfl nk_R_60 nx_F_KeyedFolds_Fold ?_
  refine jx_astore_n (i := 2) d_R_stateIsThatFoldedBackwards_11 rfl (Nat.le_of_ble_eq_true rfl) (jx_e6_2 (by trivial)) ?_
  refine jx_aload_n (i := 2) d_R_stateIsThatFoldedBackwards_12 rfl rfl ?_
  refine jx_getf d_R_stateIsThatFoldedBackwards_13 gf_R_84 hfd.2 rfl ?_
  refine jx_lstore_n (i := 3) d_R_stateIsThatFoldedBackwards_16 rfl (Nat.le_of_ble_eq_true rfl) (jx_f6_3 (by trivial)) ?_
  refine jx_aload_n (i := 0) d_R_stateIsThatFoldedBackwards_17 rfl rfl ?_
  refine jx_getf d_R_stateIsThatFoldedBackwards_18 gf_R_18 h.1 rfl ?_
  refine jx_iconst (v := 1) d_R_stateIsThatFoldedBackwards_21 (by decide) ?_
  refine jx_isub d_R_stateIsThatFoldedBackwards_22 ?_
  refine jx_istore d_R_stateIsThatFoldedBackwards_23 (Nat.le_of_ble_eq_true rfl) (jx_e6_5 (by trivial)) ?_
  exact loop n _ (Nat.le_refl _) rfl
theorem c_R_init (h : M a = some (.inl (1, [.long 0, .null, .null, .null, .int 0, .int 0, .null]))) (hs : M sa = some (kf_la nF ss)) (k : ∀ M', kr_H M' a sz (sz + 1) sa nm fl nF 0 0 (fun _ => 0) (fun _ => 0) ss → (∀ q, q ≠ a → q < sz → M' q = M q) → (∀ q e, M' q = some e → q < sz + 2) → Z none M' (sz + 2)) : jx_Cr md_R_init G d [.ref a, .long nm, .ref fl, .ref sa] M sz 2 120 Z := by
  refine jx_ent rfl (Nat.le_of_ble_eq_true rfl) (l := [some (.ref a), some (.long nm), none, some (.ref fl), some (.ref sa)]) (by simp [jx_le, jx_eas, Value.category]) (fun hlt => ?_)
  have hne : a ≠ sz := Nat.ne_of_lt (hlt a _ h)
  have hlt' := hlt a _ h
  have hne1 : a ≠ sz + 1 := by omega
  have hsa := hlt sa _ hs
  have hsaa : sa ≠ a := by
    intro q
    rw [q, h] at hs
    simp at hs
  refine jx_aload_n (i := 0) d_R_init_0 rfl rfl ?_
  refine jx_objInit d_R_init_1 mo_R_3 (Nat.succ_le_succ (Nat.zero_le _)) (jx_rml (Nat.le_of_ble_eq_true rfl)) ?_
  refine jx_aload_n (i := 0) d_R_init_4 rfl rfl ?_
  refine jx_bipush (v := 60) d_R_init_5 (by decide) ?_
  refine jx_newa (N := 60) (ak := 51) (t0 := 1) (a0 := (60, .inr (.inl fun _ => 0))) d_R_init_7 rfl na_long rfl (fun _ => rfl) (by decide) (by decide) (by decide) (jx_rmc (by omega)) (jx_rms (by omega)) (fun hno => ?_)
  refine jx_putf d_R_init_9 pf_R_9 ((jx_up_n _ _ hne).trans h) (Nat.le_of_ble_eq_true rfl) rfl rfl ?_
  refine jx_aload_n (i := 0) d_R_init_12 rfl rfl ?_
  refine jx_bipush (v := 60) d_R_init_13 (by decide) ?_
  refine jx_newa (N := 60) (ak := 51) (t0 := 1) (a0 := (60, .inr (.inl fun _ => 0))) d_R_init_15 rfl na_long rfl (fun _ => rfl) (by decide) (by decide) (by decide) (jx_rmc (by omega)) (jx_rms (by omega)) (fun hno => ?_)
  refine jx_putf d_R_init_17 pf_R_15 ((jx_up_n _ _ hne1).trans (jx_up_s _ _ _)) (Nat.le_of_ble_eq_true rfl) rfl rfl ?_
  refine jx_aload_n (i := 0) d_R_init_20 rfl rfl ?_
  refine jx_iconst (v := 0) d_R_init_21 (by decide) ?_
  refine jx_putf d_R_init_22 pf_R_18 (jx_up_s _ _ _) (Nat.le_of_ble_eq_true rfl) rfl rfl ?_
  refine jx_aload_n (i := 0) d_R_init_25 rfl rfl ?_
  refine jx_iconst (v := 0) d_R_init_26 (by decide) ?_
  refine jx_putf d_R_init_27 pf_R_22 (jx_up_s _ _ _) (Nat.le_of_ble_eq_true rfl) rfl rfl ?_
  refine jx_aload_n (i := 0) d_R_init_30 rfl rfl ?_
  refine jx_lload_n (i := 1) d_R_init_31 rfl rfl ?_
  refine jx_putf d_R_init_32 pf_R_25 (jx_up_s _ _ _) (Nat.le_of_ble_eq_true rfl) rfl rfl ?_
  refine jx_aload_n (i := 0) d_R_init_35 rfl rfl ?_
  refine jx_aload_n (i := 3) d_R_init_36 rfl rfl ?_
  refine jx_putf d_R_init_37 pf_R_29 (jx_up_s _ _ _) (Nat.le_of_ble_eq_true rfl) rfl rfl ?_
  refine jx_aload_n (i := 0) d_R_init_40 rfl rfl ?_
  refine jx_aload d_R_init_41 rfl ?_
  refine jx_putf d_R_init_43 pf_R_33 (jx_up_s _ _ _) (Nat.le_of_ble_eq_true rfl) rfl rfl ?_
  exact jx_vret d_R_init_46 rfl (by omega) (by omega) (by
    simp only [jx_up_u]
    rw [jx_up_c _ _ _ hne1, jx_up_u]
    refine k _ ⟨jx_up_s _ _ _, ?_, ?_, ?_, by omega, by omega, by omega⟩ ?_ ?_
    · rw [jx_up_n _ _ (Ne.symm hne), jx_up_n _ _ (by omega), jx_up_s]
    · rw [jx_up_n _ _ (Ne.symm hne1), jx_up_s]
    · rw [jx_up_n _ _ hsaa, jx_up_n _ _ (by omega), jx_up_n _ _ (by omega)]
      exact hs
    · intro q q1 q2
      rw [jx_up_n _ _ q1, jx_up_n _ _ (by omega), jx_up_n _ _ (by omega)]
    · intro q e hq
      by_cases q1 : q = a
      · omega
      · rw [jx_up_n _ _ q1] at hq
        by_cases q2 : q = sz + 1
        · omega
        · rw [jx_up_n _ _ q2] at hq
          by_cases q3 : q = sz
          · omega
          · rw [jx_up_n _ _ q3] at hq
            have := hlt q e hq
            omega)
end CR4
end
