/-! PART 21: KeyedFolds, what its private methods read -/
/-- the object's eighteen fields -/
abbrev kf_K (la wi en pe : Int32) (fl kl so ao oo : Nat) (lr fr : Int32) (gt lt : Int64) (tk lc db fc le : Int32) : jx_E := .inl (4, [.int la, .int wi, .int en, .int pe, .ref fl, .ref kl, .ref so, .ref ao, .ref oo, .int lr, .int fr, .long gt, .long lt, .int tk, .int lc, .int db, .int fc, .int le])
def sp_cl (x : Int32) : Int32 := if x < 0 then 0 else if 100000 < x then 100000 else x
def sp_wm (gt : Int64) : Bool := !(gt == -1)
def sp_lt (gt : Int64) (la : Int32) (t : Int64) : Bool := sp_wm gt && decide (t < gt - la.toInt64)
/-- the keys' list: of each key its name and how many rows -/
def kf_Kn (G : jx_G) (M : jx_H) (kl kar nK : Nat) (ko : Nat → Nat) (nm : Nat → Int64) (cn : Nat → Nat) : Prop := kf_L G M 1 kl kar nK ko ∧ nK ≤ 30 ∧ ∀ j, j < nK → cn j ≤ 60 ∧ ∃ (ta va sa : Nat) (wk : Int32) (fl : Nat), M (ko j) = some (kf_R (nm j) ta va sa (cn j) wk fl)
/-- the values at which the folds fail -/
def kf_Ff (M : jx_H) (nF : Nat) (fd : sp_fd) (fw : Nat → Nat → Int64) : Prop := ∀ i, i < nF → (fd i).2.2.2.1 ≤ 4 ∧ M (fd i).2.2.2.2 = some (kf_la 4 (fw i))
def sp_ff (fd : sp_fd) (fw : Nat → Nat → Int64) (v : Int64) (i : Nat) : Bool := sp_ex (fun j => fw i j == v) (fd i).2.2.2.1
theorem i_clamp (x : Int32) : (if (if x < 100000 then x else 100000) < (0 : Int32) then (0 : Int32) else (if x < 100000 then x else 100000)) = sp_cl x := by
  unfold sp_cl
  have e0 : (0 : Int32).toInt = 0 := by decide
  have e1 : (100000 : Int32).toInt = 100000 := by decide
  by_cases h1 : x < 0
  · have h2 : x < 100000 := by rw [Int32.lt_iff_toInt_lt] at h1 ⊢; omega
    rw [if_pos h2, if_pos h1, if_pos h1]
  · rw [if_neg h1]
    by_cases h2 : x < 100000
    · rw [if_pos h2, if_neg h1, if_neg (by rw [Int32.lt_iff_toInt_lt] at h2 ⊢; omega)]
    · rw [if_neg h2, if_neg (by decide)]
      by_cases h3 : (100000 : Int32) < x
      · rw [if_pos h3]
      · rw [if_neg h3]
        apply Int32.toInt_inj.mp
        rw [Int32.lt_iff_toInt_lt] at h2 h3
        omega
section CK
variable {G : jx_G} {d a fl kl so ao oo far kar nF nK sz : Nat} {la wi en pe lr fr tk lc db fc le x : Int32} {gt lt t v key : Int64} {fo ko cn : Nat → Nat} {nm : Nat → Int64} {fd : sp_fd} {fw : Nat → Nat → Int64} {M : jx_H} {Z : Option Value → jx_H → Nat → Prop}
theorem c_K_withinSettings (hd : 0 < d) (k : Z (some (.int (sp_cl x))) M sz) : jx_Cr md_K_withinSettings G d [.int x] M sz 0 0 Z := by
  refine jx_ent rfl (Nat.le_of_ble_eq_true rfl) (l := [some (.int x)]) (by simp [jx_le, jx_eas, Value.category]) (fun hlt => ?_)
  refine jx_iconst (v := 0) d_K_withinSettings_0 (by decide) ?_
  refine jx_ldcw d_K_withinSettings_1 rfl nv_K_258 ?_
  refine jx_iload_n (i := 0) d_K_withinSettings_4 rfl rfl ?_
  refine jx_mmin d_K_withinSettings_5 ms_K_259.1.1 (Nat.succ_le_succ (Nat.zero_le _)) (jx_rmm (Nat.le_of_ble_eq_true rfl)) (jx_rmc (by omega)) (jx_rms (by omega)) ?_
  refine jx_mmax d_K_withinSettings_8 ms_K_265.1.1 (Nat.succ_le_succ (Nat.zero_le _)) (jx_rmm (Nat.le_of_ble_eq_true rfl)) (jx_rmc (by omega)) (jx_rms (by omega)) ?_
  exact jx_iret d_K_withinSettings_11 rfl (by omega) (by omega) (by
    have e : (if (0 : Int32) < (if x < 100000 then x else 100000) then (if x < 100000 then x else 100000) else (0 : Int32)) = sp_cl x := by
      rw [← i_clamp]
      have e0 : (0 : Int32).toInt = 0 := by decide
      generalize (if x < 100000 then x else (100000 : Int32)) = y
      by_cases h : (0 : Int32) < y
      · rw [if_pos h, if_neg (by rw [Int32.lt_iff_toInt_lt] at h ⊢; omega)]
      · rw [if_neg h]
        by_cases h2 : y < (0 : Int32)
        · rw [if_pos h2]
        · rw [if_neg h2]
          apply Int32.toInt_inj.mp
          rw [Int32.lt_iff_toInt_lt] at h h2
          omega
    rw [e]
    exact k)
theorem c_K_isFold (hd : 0 < d) (hK : M a = some (kf_K la wi en pe fl kl so ao oo lr fr gt lt tk lc db fc le)) (hL : kf_L G M 0 fl far nF fo) (hn : nF ≤ 6) (k : Z (some (.int (kf_b (decide (0 ≤ x.toInt ∧ x.toInt < nF))))) M sz) : jx_Cr md_K_isFold G d [.ref a, .int x] M sz 0 0 Z := by
  refine jx_ent rfl (Nat.le_of_ble_eq_true rfl) (l := [some (.ref a), some (.int x)]) (by simp [jx_le, jx_eas, Value.category]) (fun hlt => ?_)
  obtain ⟨mo, hA⟩ := hL.1
  have e0 : (0 : Int32).toInt = 0 := by decide
  have e1 := nI_toInt (n := nF) (by omega)
  refine jx_iload_n (i := 1) d_K_isFold_0 rfl rfl ?_
  refine jx_if_lt (tgt := 19) d_K_isFold_1 (by decide) (fun c1 => ?_) (fun c1 => ?_)
  · refine jx_iconst (v := 0) d_K_isFold_19 (by decide) ?_
    exact jx_zret d_K_isFold_20 rfl (by first | exact Or.inl rfl | exact Or.inr rfl) (by omega) (by omega) (by
      rw [Int32.lt_iff_toInt_lt, e0] at c1
      rw [show decide (0 ≤ x.toInt ∧ x.toInt < nF) = false from decide_eq_false (by omega)] at k
      exact k)
  · refine jx_iload_n (i := 1) d_K_isFold_4 rfl rfl ?_
    refine jx_aload_n (i := 0) d_K_isFold_5 rfl rfl ?_
    refine jx_getf d_K_isFold_6 gf_K_10 hK rfl ?_
    refine jx_callV0 d_K_isFold_9 mv_K_92 hA rfl (jx_ok_rm (by omega) (Nat.le_of_ble_eq_true rfl)) (Nat.le_of_ble_eq_true rfl) (jx_rmc (by omega)) (jx_rms (by omega)) (c_L_size (d := 0) hL ?_)
    dsimp only [Option.toList, List.cons_append, List.nil_append]
    refine jx_icmp_ge (tgt := 19) d_K_isFold_12 (by decide) (fun c12 => ?_) (fun c12 => ?_)
    · refine jx_iconst (v := 0) d_K_isFold_19 (by decide) ?_
      exact jx_zret d_K_isFold_20 rfl (by first | exact Or.inl rfl | exact Or.inr rfl) (by omega) (by omega) (by
        rw [Int32.le_iff_toInt_le, e1] at c12
        rw [show decide (0 ≤ x.toInt ∧ x.toInt < nF) = false from decide_eq_false (by omega)] at k
        exact k)
    · refine jx_iconst (v := 1) d_K_isFold_15 (by decide) ?_
      refine jx_goto (tgt := 20) d_K_isFold_16 (by decide) ?_
      exact jx_zret d_K_isFold_20 rfl (by first | exact Or.inl rfl | exact Or.inr rfl) (by omega) (by omega) (by
        rw [Int32.lt_iff_toInt_lt, e0] at c1
        rw [Int32.le_iff_toInt_le, e1] at c12
        rw [show decide (0 ≤ x.toInt ∧ x.toInt < nF) = true from decide_eq_true (by omega)] at k
        exact k)
theorem c_K_placeOfKey (hd : 2 < d) (hK : M a = some (kf_K la wi en pe fl kl so ao oo lr fr gt lt tk lc db fc le)) (hN : kf_Kn G M kl kar nK ko nm cn) (k : Z (some (.int (kf_ix (sp_ix (fun j => nm j == key) nK)))) M sz) : jx_Cr md_K_placeOfKey G d [.ref a, .long key] M sz 0 0 Z := by
  refine jx_ent rfl (Nat.le_of_ble_eq_true rfl) (l := [some (.ref a), some (.long key), none, none]) (by simp [jx_le, jx_eas, Value.category]) (fun hlt => ?_)
  obtain ⟨hL, hn, hR⟩ := hN
  obtain ⟨mo, hA⟩ := hL.1
  have loop : ∀ (j i : Nat), i + j = nK → sp_ix (fun j => nm j == key) i = none → jx_V md_K_placeOfKey [] G (jx_rm d 0 0) (jx_Q1 G 0 0 Z) 2 [some (.ref a), some (.long key), none, some (.int (nI i))] [] M sz 0 0 := by
    intro j
    induction j with
    | zero =>
      intro i hi hP
      refine jx_iload_n (i := 3) d_K_placeOfKey_2 rfl rfl ?_
      refine jx_aload_n (i := 0) d_K_placeOfKey_3 rfl rfl ?_
      refine jx_getf d_K_placeOfKey_4 gf_K_16 hK rfl ?_
      refine jx_callV0 d_K_placeOfKey_7 mv_K_92 hA rfl (jx_ok_rm (by omega) (Nat.le_of_ble_eq_true rfl)) (Nat.le_of_ble_eq_true rfl) (jx_rmc (by omega)) (jx_rms (by omega)) (c_L_size (d := 0) hL ?_)
      dsimp only [Option.toList, List.cons_append, List.nil_append]
      refine jx_icmp_ge (tgt := 40) d_K_placeOfKey_10 (by decide) (fun c10 => ?_) (fun c10 => ?_)
      · refine jx_iconst (v := (-1)) d_K_placeOfKey_40 (by decide) ?_
        exact jx_iret d_K_placeOfKey_41 rfl (by omega) (by omega) (by rw [show nK = i by omega, hP] at k; exact k)
      · exact absurd ((nI_leI (by omega) (by omega)).mpr (by omega)) c10
    | succ j ih =>
      intro i hi hP
      obtain ⟨-, ta, va, sa, wk, fl', hr⟩ := hR i (by omega)
      refine jx_iload_n (i := 3) d_K_placeOfKey_2 rfl rfl ?_
      refine jx_aload_n (i := 0) d_K_placeOfKey_3 rfl rfl ?_
      refine jx_getf d_K_placeOfKey_4 gf_K_16 hK rfl ?_
      refine jx_callV0 d_K_placeOfKey_7 mv_K_92 hA rfl (jx_ok_rm (by omega) (Nat.le_of_ble_eq_true rfl)) (Nat.le_of_ble_eq_true rfl) (jx_rmc (by omega)) (jx_rms (by omega)) (c_L_size (d := 0) hL ?_)
      dsimp only [Option.toList, List.cons_append, List.nil_append]
      refine jx_icmp_ge (tgt := 40) d_K_placeOfKey_10 (by decide) (fun c10 => ?_) (fun c10 => ?_)
      · exact absurd ((nI_leI (by omega) (by omega)).mp c10) (by omega)
      · refine jx_aload_n (i := 0) d_K_placeOfKey_13 rfl rfl ?_
        refine jx_getf d_K_placeOfKey_14 gf_K_16 hK rfl ?_
        refine jx_iload_n (i := 3) d_K_placeOfKey_17 rfl rfl ?_
        refine jx_callV1 d_K_placeOfKey_18 mv_K_125 hA rfl (jx_ok_rm (by omega) (Nat.le_of_ble_eq_true rfl)) (Nat.le_of_ble_eq_true rfl) (jx_rmc (by omega)) (jx_rms (by omega)) (c_L_get (d := 2) (by omega) hL (by omega) ?_)
        dsimp only [Option.toList, List.cons_append, List.nil_append]
        refine jx_castn d_K_placeOfKey_21 hr rfl nk_K_196 nx_R_KeyedFolds_KeyRows ?_
        refine jx_getf d_K_placeOfKey_24 gf_K_268 hr rfl ?_
        refine jx_lload_n (i := 1) d_K_placeOfKey_27 rfl rfl ?_
        refine jx_l_ne (tgt := 34) d_K_placeOfKey_28 d_K_placeOfKey_29 (by decide) (fun c28 => ?_) (fun c28 => ?_)
        · refine jx_iinc d_K_placeOfKey_34 rfl (Nat.le_of_ble_eq_true rfl) (jx_e4_3 (by trivial)) ?_
          refine jx_goto (tgt := 2) d_K_placeOfKey_37 (by decide) ?_
          rw [nI_1]
          refine ih (i + 1) (by omega) ?_
          simp [sp_ix, hP, c28]
        · refine jx_iload_n (i := 3) d_K_placeOfKey_32 rfl rfl ?_
          exact jx_iret d_K_placeOfKey_33 rfl (by omega) (by omega) (by
            rw [sp_ix_at (i := i) hP (by simp [c28]) (by omega)] at k
            exact k)
  refine jx_iconst (v := 0) d_K_placeOfKey_0 (by decide) ?_
  refine jx_istore_n (i := 3) d_K_placeOfKey_1 rfl (Nat.le_of_ble_eq_true rfl) (jx_e4_3 (by trivial)) ?_
  exact loop nK 0 (by omega) rfl
theorem c_K_hasWatermark (hK : M a = some (kf_K la wi en pe fl kl so ao oo lr fr gt lt tk lc db fc le)) (k : Z (some (.int (kf_b (sp_wm gt)))) M sz) : jx_Cr md_K_hasWatermark G d [.ref a] M sz 0 0 Z := by
  refine jx_ent rfl (Nat.le_of_ble_eq_true rfl) (l := [some (.ref a)]) (by simp [jx_le, jx_eas, Value.category]) (fun hlt => ?_)
  refine jx_aload_n (i := 0) d_K_hasWatermark_0 rfl rfl ?_
  refine jx_getf d_K_hasWatermark_1 gf_K_47 hK rfl ?_
  refine jx_ldc2 d_K_hasWatermark_4 rfl nv_K_45 ?_
  refine jx_l_eq (tgt := 15) d_K_hasWatermark_7 d_K_hasWatermark_8 (by decide) (fun c7 => ?_) (fun c7 => ?_)
  · refine jx_iconst (v := 0) d_K_hasWatermark_15 (by decide) ?_
    exact jx_zret d_K_hasWatermark_16 rfl (by first | exact Or.inl rfl | exact Or.inr rfl) (by omega) (by omega) (by simpa [sp_wm, c7, kf_b] using k)
  · refine jx_iconst (v := 1) d_K_hasWatermark_11 (by decide) ?_
    refine jx_goto (tgt := 16) d_K_hasWatermark_12 (by decide) ?_
    exact jx_zret d_K_hasWatermark_16 rfl (by first | exact Or.inl rfl | exact Or.inr rfl) (by omega) (by omega) (by simpa [sp_wm, c7, kf_b] using k)
theorem c_K_watermarkTime (hK : M a = some (kf_K la wi en pe fl kl so ao oo lr fr gt lt tk lc db fc le)) (k : Z (some (.long (gt - la.toInt64))) M sz) : jx_Cr md_K_watermarkTime G d [.ref a] M sz 0 0 Z := by
  refine jx_ent rfl (Nat.le_of_ble_eq_true rfl) (l := [some (.ref a)]) (by simp [jx_le, jx_eas, Value.category]) (fun hlt => ?_)
  refine jx_aload_n (i := 0) d_K_watermarkTime_0 rfl rfl ?_
  refine jx_getf d_K_watermarkTime_1 gf_K_47 hK rfl ?_
  refine jx_aload_n (i := 0) d_K_watermarkTime_4 rfl rfl ?_
  refine jx_getf d_K_watermarkTime_5 gf_K_73 hK rfl ?_
  refine jx_i2l d_K_watermarkTime_8 ?_
  refine jx_lsub d_K_watermarkTime_9 ?_
  exact jx_lret d_K_watermarkTime_10 rfl (by omega) (by omega) k
theorem c_K_isLate (hd : 0 < d) (hK : M a = some (kf_K la wi en pe fl kl so ao oo lr fr gt lt tk lc db fc le)) (k : Z (some (.int (kf_b (sp_lt gt la t)))) M sz) : jx_Cr md_K_isLate G d [.ref a, .long t] M sz 0 0 Z := by
  refine jx_ent rfl (Nat.le_of_ble_eq_true rfl) (l := [some (.ref a), some (.long t), none]) (by simp [jx_le, jx_eas, Value.category]) (fun hlt => ?_)
  refine jx_aload_n (i := 0) d_K_isLate_0 rfl rfl ?_
  refine jx_callV0 d_K_isLate_1 mv_K_235 hK rfl (jx_ok_rm (by omega) (Nat.le_of_ble_eq_true rfl)) (Nat.le_of_ble_eq_true rfl) (jx_rmc (by omega)) (jx_rms (by omega)) (c_K_hasWatermark (d := 0) hK ?_)
  dsimp only [Option.toList, List.cons_append, List.nil_append]
  refine jx_if_eq (tgt := 20) d_K_isLate_4 (by decide) (fun c4 => ?_) (fun c4 => ?_)
  · rw [kf_b_eq0] at c4
    refine jx_iconst (v := 0) d_K_isLate_20 (by decide) ?_
    exact jx_zret d_K_isLate_21 rfl (by first | exact Or.inl rfl | exact Or.inr rfl) (by omega) (by omega) (by simpa [sp_lt, c4, kf_b] using k)
  · have hw : sp_wm gt = true := by
      cases hq : sp_wm gt with
      | true => rfl
      | false => exact absurd ((kf_b_eq0 _).mpr hq) c4
    refine jx_lload_n (i := 1) d_K_isLate_7 rfl rfl ?_
    refine jx_aload_n (i := 0) d_K_isLate_8 rfl rfl ?_
    refine jx_callV0 d_K_isLate_9 mv_K_240 hK rfl (jx_ok_rm (by omega) (Nat.le_of_ble_eq_true rfl)) (Nat.le_of_ble_eq_true rfl) (jx_rmc (by omega)) (jx_rms (by omega)) (c_K_watermarkTime (d := 0) hK ?_)
    dsimp only [Option.toList, List.cons_append, List.nil_append]
    refine jx_l_ge (tgt := 20) d_K_isLate_12 d_K_isLate_13 (by decide) (fun c12 => ?_) (fun c12 => ?_)
    · refine jx_iconst (v := 0) d_K_isLate_20 (by decide) ?_
      exact jx_zret d_K_isLate_21 rfl (by first | exact Or.inl rfl | exact Or.inr rfl) (by omega) (by omega) (by
        have : ¬ t < gt - la.toInt64 := fun q => absurd c12 (l_nle q)
        simpa [sp_lt, hw, this, kf_b] using k)
    · refine jx_iconst (v := 1) d_K_isLate_16 (by decide) ?_
      refine jx_goto (tgt := 21) d_K_isLate_17 (by decide) ?_
      exact jx_zret d_K_isLate_21 rfl (by first | exact Or.inl rfl | exact Or.inr rfl) (by omega) (by omega) (by
        have : t < gt - la.toInt64 := by
          rw [Int64.le_iff_toInt_le] at c12
          rw [Int64.lt_iff_toInt_lt]
          omega
        simpa [sp_lt, hw, this, kf_b] using k)
theorem c_K_causeOf (hd : 2 < d) (hK : M a = some (kf_K la wi en pe fl kl so ao oo lr fr gt lt tk lc db fc le)) (hF : kf_Fs G M fl far nF fo fd) (hf : kf_Ff M nF fd fw) (k : Z (some (.int (kf_ix (sp_ix (sp_ff fd fw v) nF)))) M sz) : jx_Cr md_K_causeOf G d [.ref a, .long v] M sz 0 0 Z := by
  refine jx_ent rfl (Nat.le_of_ble_eq_true rfl) (l := [some (.ref a), some (.long v), none, none]) (by simp [jx_le, jx_eas, Value.category]) (fun hlt => ?_)
  obtain ⟨hL, hn, hR⟩ := hF
  obtain ⟨mo, hA⟩ := hL.1
  have loop : ∀ (j i : Nat), i + j = nF → sp_ix (sp_ff fd fw v) i = none → jx_V md_K_causeOf [] G (jx_rm d 0 0) (jx_Q1 G 0 0 Z) 2 [some (.ref a), some (.long v), none, some (.int (nI i))] [] M sz 0 0 := by
    intro j
    induction j with
    | zero =>
      intro i hi hP
      refine jx_iload_n (i := 3) d_K_causeOf_2 rfl rfl ?_
      refine jx_aload_n (i := 0) d_K_causeOf_3 rfl rfl ?_
      refine jx_getf d_K_causeOf_4 gf_K_10 hK rfl ?_
      refine jx_callV0 d_K_causeOf_7 mv_K_92 hA rfl (jx_ok_rm (by omega) (Nat.le_of_ble_eq_true rfl)) (Nat.le_of_ble_eq_true rfl) (jx_rmc (by omega)) (jx_rms (by omega)) (c_L_size (d := 0) hL ?_)
      dsimp only [Option.toList, List.cons_append, List.nil_append]
      refine jx_icmp_ge (tgt := 39) d_K_causeOf_10 (by decide) (fun c10 => ?_) (fun c10 => ?_)
      · refine jx_iconst (v := (-1)) d_K_causeOf_39 (by decide) ?_
        exact jx_iret d_K_causeOf_40 rfl (by omega) (by omega) (by rw [show nF = i by omega, hP] at k; exact k)
      · exact absurd ((nI_leI (by omega) (by omega)).mpr (by omega)) c10
    | succ j ih =>
      intro i hi hP
      have hr := hR i (by omega)
      have hw := hf i (by omega)
      refine jx_iload_n (i := 3) d_K_causeOf_2 rfl rfl ?_
      refine jx_aload_n (i := 0) d_K_causeOf_3 rfl rfl ?_
      refine jx_getf d_K_causeOf_4 gf_K_10 hK rfl ?_
      refine jx_callV0 d_K_causeOf_7 mv_K_92 hA rfl (jx_ok_rm (by omega) (Nat.le_of_ble_eq_true rfl)) (Nat.le_of_ble_eq_true rfl) (jx_rmc (by omega)) (jx_rms (by omega)) (c_L_size (d := 0) hL ?_)
      dsimp only [Option.toList, List.cons_append, List.nil_append]
      refine jx_icmp_ge (tgt := 39) d_K_causeOf_10 (by decide) (fun c10 => ?_) (fun c10 => ?_)
      · exact absurd ((nI_leI (by omega) (by omega)).mp c10) (by omega)
      · refine jx_aload_n (i := 0) d_K_causeOf_13 rfl rfl ?_
        refine jx_getf d_K_causeOf_14 gf_K_10 hK rfl ?_
        refine jx_iload_n (i := 3) d_K_causeOf_17 rfl rfl ?_
        refine jx_callV1 d_K_causeOf_18 mv_K_125 hA rfl (jx_ok_rm (by omega) (Nat.le_of_ble_eq_true rfl)) (Nat.le_of_ble_eq_true rfl) (jx_rmc (by omega)) (jx_rms (by omega)) (c_L_get (d := 2) (by omega) hL (by omega) ?_)
        dsimp only [Option.toList, List.cons_append, List.nil_append]
        refine jx_castn d_K_causeOf_21 hr.2 rfl nk_K_107 nx_F_KeyedFolds_Fold ?_
        refine jx_lload_n (i := 1) d_K_causeOf_24 rfl rfl ?_
        refine jx_callV1 d_K_causeOf_25 mv_K_134 hr.2 rfl (jx_ok_rm (by omega) (Nat.le_of_ble_eq_true rfl)) (Nat.le_of_ble_eq_true rfl) (jx_rmc (by omega)) (jx_rms (by omega)) (c_F_isFailing (d := 0) hw.1 hr.2 hw.2 ?_)
        dsimp only [Option.toList, List.cons_append, List.nil_append]
        refine jx_if_eq (tgt := 33) d_K_causeOf_28 (by decide) (fun c28 => ?_) (fun c28 => ?_)
        · rw [kf_b_eq0] at c28
          refine jx_iinc d_K_causeOf_33 rfl (Nat.le_of_ble_eq_true rfl) (jx_e4_3 (by trivial)) ?_
          refine jx_goto (tgt := 2) d_K_causeOf_36 (by decide) ?_
          rw [nI_1]
          refine ih (i + 1) (by omega) ?_
          simp [sp_ix, hP, sp_ff, c28]
        · refine jx_iload_n (i := 3) d_K_causeOf_31 rfl rfl ?_
          exact jx_iret d_K_causeOf_32 rfl (by omega) (by omega) (by
            rw [sp_ix_at (i := i) hP (by
              cases hq : sp_ff fd fw v i with
              | true => rfl
              | false => exact absurd ((kf_b_eq0 _).mpr hq) c28) (by omega)] at k
            exact k)
  refine jx_iconst (v := 0) d_K_causeOf_0 (by decide) ?_
  refine jx_istore_n (i := 3) d_K_causeOf_1 rfl (Nat.le_of_ble_eq_true rfl) (jx_e4_3 (by trivial)) ?_
  exact loop nF 0 (by omega) rfl
/-- is there room for a row of that key? -/
def sp_rf (r : Option Nat) (nK : Nat) (cn : Nat → Nat) : Bool := match r with
  | some j => decide (cn j < 60)
  | none => decide (nK < 30)
theorem c_K_hasRoomFor (hd : 3 < d) (hK : M a = some (kf_K la wi en pe fl kl so ao oo lr fr gt lt tk lc db fc le)) (hN : kf_Kn G M kl kar nK ko nm cn) (k : Z (some (.int (kf_b (sp_rf (sp_ix (fun j => nm j == key) nK) nK cn)))) M sz) : jx_Cr md_K_hasRoomFor G d [.ref a, .long key] M sz 0 0 Z := by
  refine jx_ent rfl (Nat.le_of_ble_eq_true rfl) (l := [some (.ref a), some (.long key), none, none]) (by simp [jx_le, jx_eas, Value.category]) (fun hlt => ?_)
  have hN0 := hN
  obtain ⟨hL, hn, hR⟩ := hN
  obtain ⟨mo, hA⟩ := hL.1
  refine jx_aload_n (i := 0) d_K_hasRoomFor_0 rfl rfl ?_
  refine jx_lload_n (i := 1) d_K_hasRoomFor_1 rfl rfl ?_
  refine jx_callV1 d_K_hasRoomFor_2 mv_K_190 hK rfl (jx_ok_rm (by omega) (Nat.le_of_ble_eq_true rfl)) (Nat.le_of_ble_eq_true rfl) (jx_rmc (by omega)) (jx_rms (by omega)) (c_K_placeOfKey (d := 3) (by omega) hK hN0 ?_)
  dsimp only [Option.toList, List.cons_append, List.nil_append]
  cases hq : sp_ix (fun j => nm j == key) nK with
  | none =>
    rw [hq] at k
    refine jx_istore_n (i := 3) d_K_hasRoomFor_5 rfl (Nat.le_of_ble_eq_true rfl) (jx_e4_3 (by trivial)) ?_
    refine jx_iload_n (i := 3) d_K_hasRoomFor_6 rfl rfl ?_
    refine jx_if_ge (tgt := 30) d_K_hasRoomFor_7 (by decide) (fun c7 => ?_) (fun c7 => ?_)
    · exact absurd c7 (by decide)
    · refine jx_aload_n (i := 0) d_K_hasRoomFor_10 rfl rfl ?_
      refine jx_getf d_K_hasRoomFor_11 gf_K_16 hK rfl ?_
      refine jx_callV0 d_K_hasRoomFor_14 mv_K_92 hA rfl (jx_ok_rm (by omega) (Nat.le_of_ble_eq_true rfl)) (Nat.le_of_ble_eq_true rfl) (jx_rmc (by omega)) (jx_rms (by omega)) (c_L_size (d := 0) hL ?_)
      dsimp only [Option.toList, List.cons_append, List.nil_append]
      refine jx_bipush (v := 30) d_K_hasRoomFor_17 (by decide) ?_
      refine jx_icmp_ge (tgt := 26) d_K_hasRoomFor_19 (by decide) (fun c19 => ?_) (fun c19 => ?_)
      · refine jx_iconst (v := 0) d_K_hasRoomFor_26 (by decide) ?_
        refine jx_goto (tgt := 54) d_K_hasRoomFor_27 (by decide) ?_
        exact jx_zret d_K_hasRoomFor_54 rfl (by first | exact Or.inl rfl | exact Or.inr rfl) (by omega) (by omega) (by
          have := (nI_leI (a := 30) (by omega) (by omega)).mp c19
          rw [show sp_rf none nK cn = false from decide_eq_false (by omega)] at k
          exact k)
      · refine jx_iconst (v := 1) d_K_hasRoomFor_22 (by decide) ?_
        refine jx_goto (tgt := 54) d_K_hasRoomFor_23 (by decide) ?_
        exact jx_zret d_K_hasRoomFor_54 rfl (by first | exact Or.inl rfl | exact Or.inr rfl) (by omega) (by omega) (by
          have : ¬ 30 ≤ nK := fun q => c19 ((nI_leI (a := 30) (by omega) (by omega)).mpr q)
          rw [show sp_rf none nK cn = true from decide_eq_true (by omega)] at k
          exact k)
  | some i =>
    rw [hq] at k
    have hi := (sp_ix_lt hq).1
    obtain ⟨hc, ta, va, sa, wk, fl', hr⟩ := hR i hi
    refine jx_istore_n (i := 3) d_K_hasRoomFor_5 rfl (Nat.le_of_ble_eq_true rfl) (jx_e4_3 (by trivial)) ?_
    refine jx_iload_n (i := 3) d_K_hasRoomFor_6 rfl rfl ?_
    refine jx_if_ge (tgt := 30) d_K_hasRoomFor_7 (by decide) (fun c7 => ?_) (fun c7 => ?_)
    · refine jx_aload_n (i := 0) d_K_hasRoomFor_30 rfl rfl ?_
      refine jx_getf d_K_hasRoomFor_31 gf_K_16 hK rfl ?_
      refine jx_iload_n (i := 3) d_K_hasRoomFor_34 rfl rfl ?_
      refine jx_callV1 d_K_hasRoomFor_35 mv_K_125 hA rfl (jx_ok_rm (by omega) (Nat.le_of_ble_eq_true rfl)) (Nat.le_of_ble_eq_true rfl) (jx_rmc (by omega)) (jx_rms (by omega)) (c_L_get (d := 2) (by omega) hL hi ?_)
      dsimp only [Option.toList, List.cons_append, List.nil_append]
      refine jx_castn d_K_hasRoomFor_38 hr rfl nk_K_196 nx_R_KeyedFolds_KeyRows ?_
      refine jx_getf d_K_hasRoomFor_41 gf_K_204 hr rfl ?_
      refine jx_bipush (v := 60) d_K_hasRoomFor_44 (by decide) ?_
      refine jx_icmp_ge (tgt := 53) d_K_hasRoomFor_46 (by decide) (fun c46 => ?_) (fun c46 => ?_)
      · refine jx_iconst (v := 0) d_K_hasRoomFor_53 (by decide) ?_
        exact jx_zret d_K_hasRoomFor_54 rfl (by first | exact Or.inl rfl | exact Or.inr rfl) (by omega) (by omega) (by
          have := (nI_leI (a := 60) (by omega) (by omega)).mp c46
          rw [show sp_rf (some i) nK cn = false from decide_eq_false (by omega)] at k
          exact k)
      · refine jx_iconst (v := 1) d_K_hasRoomFor_49 (by decide) ?_
        refine jx_goto (tgt := 54) d_K_hasRoomFor_50 (by decide) ?_
        exact jx_zret d_K_hasRoomFor_54 rfl (by first | exact Or.inl rfl | exact Or.inr rfl) (by omega) (by omega) (by
          have : ¬ 60 ≤ cn i := fun q => c46 ((nI_leI (a := 60) (by omega) (by omega)).mpr q)
          rw [show sp_rf (some i) nK cn = true from decide_eq_true (by omega)] at k
          exact k)
    · exact absurd (nI_pos' (n := i) (by omega)) c7
end CK
