/-! PART 38: the reference: searching, folding -/
theorem l_gt {x z : Int64} (h : ¬ x ≤ z) : z < x := by
  rw [Int64.le_iff_toInt_le] at h
  rw [Int64.lt_iff_toInt_lt]
  omega
theorem l_le {x z : Int64} (h : x < z) : x ≤ z := by
  rw [Int64.lt_iff_toInt_lt] at h
  rw [Int64.le_iff_toInt_le]
  omega
theorem l_anti {x z : Int64} (h : x ≤ z) (h2 : z ≤ x) : x = z := by
  rw [Int64.le_iff_toInt_le] at h h2
  exact Int64.toInt_inj.mp (by omega)
theorem l_mx {s v : Int64} (h : s ≤ v) : (if v ≤ s then s else v) = v := by
  split
  · exact l_anti h (by assumption)
  · rfl
theorem l_mn {s v : Int64} (h : v ≤ s) : (if s ≤ v then s else v) = v := by
  split
  · exact l_anti (by assumption) h
  · rfl
theorem m_mj : ∀ kn, kn ≤ 8 → ((nI kn ≤ 2 → sp_mj (nI kn) = true) ∧ (nI kn = 6 → sp_mj (nI kn) = true) ∧ (nI kn = 7 → sp_mj (nI kn) = true) ∧ (¬ nI kn ≤ 2 → ¬ nI kn = 6 → ¬ nI kn = 7 → sp_mj (nI kn) = false)) := by decide +kernel
theorem m_tb : ∀ kn, kn ≤ 8 → ((nI kn = 0 → sp_tb (nI kn) = true) ∧ (nI kn = 6 → sp_tb (nI kn) = true) ∧ (nI kn = 7 → sp_tb (nI kn) = true) ∧ (¬ nI kn = 0 → ¬ nI kn = 6 → ¬ nI kn = 7 → sp_tb (nI kn) = false)) := by decide +kernel
section CM2
variable {G : jx_G} {d b nF nK sz nS nA nO : Nat} {la wi en pe cd lr fr tk lc db fc le x : Int32} {gt lt t v key s0 t0 bf bd : Int64} {nm : Nat → Int64} {kd : Nat → sp_key} {fd : sp_fd} {fw : Nat → Nat → Int64} {sn ac oc : Nat → Int64} {M : jx_H} {Z : Option Value → jx_H → Nat → Prop}
theorem c_M_keyOf (hN : mW M b la wi en pe cd lr fr gt lt tk lc db fc le nF fd fw nK nm kd nS sn nA ac nO oc) (k : Z (some (.int (kf_ix (sp_ix (fun j => nm j == key) nK)))) M sz) : jx_Cr md_M_keyOf G d [.ref b, .long key] M sz 0 0 Z := by
  refine jx_ent rfl (Nat.le_of_ble_eq_true rfl) (l := [some (.ref b), some (.long key), none, none]) (by simp [jx_le, jx_eas, Value.category]) (fun hlt => ?_)
  obtain ⟨mk, ki, st, nu, fa, fl, nn, si, wo, ti, va, so, hmk, hB, ⟨h1, h2, h3, h4, h5, h6, h7, h8, h9, h10, h11, h12, h13⟩, hF, hK, hS5, hS⟩ := hN
  have hnK := hK.1
  rw [← sp_ix_congr (P := fun j => nn j == key) (fun i hi => by rw [(hK.2.1 i hi).2.1])] at k
  have loop : ∀ (j i : Nat), i + j = nK → sp_ix (fun j => nn j == key) i = none → jx_V md_M_keyOf [] G (jx_rm d 0 0) (jx_Q1 G 0 0 Z) 2 [some (.ref b), some (.long key), none, some (.int (nI i))] [] M sz 0 0 := by
    intro j
    induction j with
    | zero =>
      intro i hi hP
      refine jx_iload_n (i := 3) d_M_keyOf_2 rfl rfl ?_
      refine jx_aload_n (i := 0) d_M_keyOf_3 rfl rfl ?_
      refine jx_getf d_M_keyOf_4 gf_M_74 hB rfl ?_
      refine jx_icmp_ge (tgt := 27) d_M_keyOf_7 (by decide) (fun c7 => ?_) (fun c7 => ?_)
      · refine jx_iload_n (i := 3) d_M_keyOf_27 rfl rfl ?_
        refine jx_aload_n (i := 0) d_M_keyOf_28 rfl rfl ?_
        refine jx_getf d_M_keyOf_29 gf_M_74 hB rfl ?_
        refine jx_icmp_ge (tgt := 39) d_M_keyOf_32 (by decide) (fun c32 => ?_) (fun c32 => ?_)
        · refine jx_iconst (v := (-1)) d_M_keyOf_39 (by decide) ?_
          exact jx_iret d_M_keyOf_40 rfl (by omega) (by omega) (by rw [show nK = i by omega, hP] at k; exact k)
        · exact absurd ((nI_leI (by omega) (by omega)).mpr (by omega)) c32
      · exact absurd ((nI_leI (by omega) (by omega)).mpr (by omega)) c7
    | succ j ih =>
      intro i hi hP
      refine jx_iload_n (i := 3) d_M_keyOf_2 rfl rfl ?_
      refine jx_aload_n (i := 0) d_M_keyOf_3 rfl rfl ?_
      refine jx_getf d_M_keyOf_4 gf_M_74 hB rfl ?_
      refine jx_icmp_ge (tgt := 27) d_M_keyOf_7 (by decide) (fun c7 => ?_) (fun c7 => ?_)
      · exact absurd ((nI_leI (by omega) (by omega)).mp c7) (by omega)
      · refine jx_aload_n (i := 0) d_M_keyOf_10 rfl rfl ?_
        refine jx_getf d_M_keyOf_11 gf_M_26 hB rfl ?_
        refine jx_iload_n (i := 3) d_M_keyOf_14 rfl rfl ?_
        refine jx_laldj d_M_keyOf_15 h6 rfl (by omega) (by omega) ?_
        refine jx_lload_n (i := 1) d_M_keyOf_16 rfl rfl ?_
        refine jx_l_eq (tgt := 27) d_M_keyOf_17 d_M_keyOf_18 (by decide) (fun c17 => ?_) (fun c17 => ?_)
        · refine jx_iload_n (i := 3) d_M_keyOf_27 rfl rfl ?_
          refine jx_aload_n (i := 0) d_M_keyOf_28 rfl rfl ?_
          refine jx_getf d_M_keyOf_29 gf_M_74 hB rfl ?_
          refine jx_icmp_ge (tgt := 39) d_M_keyOf_32 (by decide) (fun c32 => ?_) (fun c32 => ?_)
          · exact absurd ((nI_leI (by omega) (by omega)).mp c32) (by omega)
          · refine jx_iload_n (i := 3) d_M_keyOf_35 rfl rfl ?_
            refine jx_goto (tgt := 40) d_M_keyOf_36 (by decide) ?_
            exact jx_iret d_M_keyOf_40 rfl (by omega) (by omega) (by
              rw [sp_ix_at (i := i) hP (by simp [c17]) (by omega)] at k
              exact k)
        · refine jx_iinc d_M_keyOf_21 rfl (Nat.le_of_ble_eq_true rfl) (jx_e4_3 (by trivial)) ?_
          refine jx_goto (tgt := 2) d_M_keyOf_24 (by decide) ?_
          rw [nI_1]
          refine ih (i + 1) (by omega) ?_
          simp [sp_ix, hP, c17]
  refine jx_iconst (v := 0) d_M_keyOf_0 (by decide) ?_
  refine jx_istore_n (i := 3) d_M_keyOf_1 rfl (Nat.le_of_ble_eq_true rfl) (jx_e4_3 (by trivial)) ?_
  exact loop nK 0 (by omega) rfl
theorem c_M_stopOf (hN : mW M b la wi en pe cd lr fr gt lt tk lc db fc le nF fd fw nK nm kd nS sn nA ac nO oc) (k : Z (some (.int (kf_ix (sp_ix (fun j => sn j == key) nS)))) M sz) : jx_Cr md_M_stopOf G d [.ref b, .long key] M sz 0 0 Z := by
  refine jx_ent rfl (Nat.le_of_ble_eq_true rfl) (l := [some (.ref b), some (.long key), none, none]) (by simp [jx_le, jx_eas, Value.category]) (fun hlt => ?_)
  obtain ⟨mk, ki, st, nu, fa, fl, nn, si, wo, ti, va, so, hmk, hB, ⟨h1, h2, h3, h4, h5, h6, h7, h8, h9, h10, h11, h12, h13⟩, hF, hK, hS5, hS⟩ := hN
  rw [← sp_ix_congr (P := fun j => so j == key) (fun i hi => by rw [hS i hi])] at k
  have loop : ∀ (j i : Nat), i + j = nS → sp_ix (fun j => so j == key) i = none → jx_V md_M_stopOf [] G (jx_rm d 0 0) (jx_Q1 G 0 0 Z) 2 [some (.ref b), some (.long key), none, some (.int (nI i))] [] M sz 0 0 := by
    intro j
    induction j with
    | zero =>
      intro i hi hP
      refine jx_iload_n (i := 3) d_M_stopOf_2 rfl rfl ?_
      refine jx_aload_n (i := 0) d_M_stopOf_3 rfl rfl ?_
      refine jx_getf d_M_stopOf_4 gf_M_77 hB rfl ?_
      refine jx_icmp_ge (tgt := 27) d_M_stopOf_7 (by decide) (fun c7 => ?_) (fun c7 => ?_)
      · refine jx_iload_n (i := 3) d_M_stopOf_27 rfl rfl ?_
        refine jx_aload_n (i := 0) d_M_stopOf_28 rfl rfl ?_
        refine jx_getf d_M_stopOf_29 gf_M_77 hB rfl ?_
        refine jx_icmp_ge (tgt := 39) d_M_stopOf_32 (by decide) (fun c32 => ?_) (fun c32 => ?_)
        · refine jx_iconst (v := (-1)) d_M_stopOf_39 (by decide) ?_
          exact jx_iret d_M_stopOf_40 rfl (by omega) (by omega) (by rw [show nS = i by omega, hP] at k; exact k)
        · exact absurd ((nI_leI (by omega) (by omega)).mpr (by omega)) c32
      · exact absurd ((nI_leI (by omega) (by omega)).mpr (by omega)) c7
    | succ j ih =>
      intro i hi hP
      refine jx_iload_n (i := 3) d_M_stopOf_2 rfl rfl ?_
      refine jx_aload_n (i := 0) d_M_stopOf_3 rfl rfl ?_
      refine jx_getf d_M_stopOf_4 gf_M_77 hB rfl ?_
      refine jx_icmp_ge (tgt := 27) d_M_stopOf_7 (by decide) (fun c7 => ?_) (fun c7 => ?_)
      · exact absurd ((nI_leI (by omega) (by omega)).mp c7) (by omega)
      · refine jx_aload_n (i := 0) d_M_stopOf_10 rfl rfl ?_
        refine jx_getf d_M_stopOf_11 gf_M_41 hB rfl ?_
        refine jx_iload_n (i := 3) d_M_stopOf_14 rfl rfl ?_
        refine jx_laldj d_M_stopOf_15 h11 rfl (by omega) (by omega) ?_
        refine jx_lload_n (i := 1) d_M_stopOf_16 rfl rfl ?_
        refine jx_l_eq (tgt := 27) d_M_stopOf_17 d_M_stopOf_18 (by decide) (fun c17 => ?_) (fun c17 => ?_)
        · refine jx_iload_n (i := 3) d_M_stopOf_27 rfl rfl ?_
          refine jx_aload_n (i := 0) d_M_stopOf_28 rfl rfl ?_
          refine jx_getf d_M_stopOf_29 gf_M_77 hB rfl ?_
          refine jx_icmp_ge (tgt := 39) d_M_stopOf_32 (by decide) (fun c32 => ?_) (fun c32 => ?_)
          · exact absurd ((nI_leI (by omega) (by omega)).mp c32) (by omega)
          · refine jx_iload_n (i := 3) d_M_stopOf_35 rfl rfl ?_
            refine jx_goto (tgt := 40) d_M_stopOf_36 (by decide) ?_
            exact jx_iret d_M_stopOf_40 rfl (by omega) (by omega) (by
              rw [sp_ix_at (i := i) hP (by simp [c17]) (by omega)] at k
              exact k)
        · refine jx_iinc d_M_stopOf_21 rfl (Nat.le_of_ble_eq_true rfl) (jx_e4_3 (by trivial)) ?_
          refine jx_goto (tgt := 2) d_M_stopOf_24 (by decide) ?_
          rw [nI_1]
          refine ih (i + 1) (by omega) ?_
          simp [sp_ix, hP, c17]
  refine jx_iconst (v := 0) d_M_stopOf_0 (by decide) ?_
  refine jx_istore_n (i := 3) d_M_stopOf_1 rfl (Nat.le_of_ble_eq_true rfl) (jx_e4_3 (by trivial)) ?_
  exact loop nS 0 (by omega) rfl
theorem c_M_mayBeJoined {kn : Nat} {fs : List Value} (hkn : kn ≤ 8) (hB : M b = some (.inl (5, fs))) (k : Z (some (.int (kf_b (sp_mj (nI kn))))) M sz) : jx_Cr md_M_mayBeJoined G d [.ref b, .int (nI kn)] M sz 0 0 Z := by
  refine jx_ent rfl (Nat.le_of_ble_eq_true rfl) (l := [some (.ref b), some (.int (nI kn))]) (by simp [jx_le, jx_eas, Value.category]) (fun hlt => ?_)
  have hp := m_mj kn hkn
  refine jx_iload_n (i := 1) d_M_mayBeJoined_0 rfl rfl ?_
  refine jx_iconst (v := 2) d_M_mayBeJoined_1 (by decide) ?_
  refine jx_icmp_le (tgt := 17) d_M_mayBeJoined_2 (by decide) (fun c2 => ?_) (fun c2 => ?_)
  · refine jx_iconst (v := 1) d_M_mayBeJoined_17 (by decide) ?_
    refine jx_goto (tgt := 22) d_M_mayBeJoined_18 (by decide) ?_
    exact jx_zret d_M_mayBeJoined_22 rfl (by first | exact Or.inl rfl | exact Or.inr rfl) (by omega) (by omega) (by rw [hp.1 c2] at k; exact k)
  · refine jx_iload_n (i := 1) d_M_mayBeJoined_5 rfl rfl ?_
    refine jx_bipush (v := 6) d_M_mayBeJoined_6 (by decide) ?_
    refine jx_icmp_eq (tgt := 17) d_M_mayBeJoined_8 (by decide) (fun c8 => ?_) (fun c8 => ?_)
    · refine jx_iconst (v := 1) d_M_mayBeJoined_17 (by decide) ?_
      refine jx_goto (tgt := 22) d_M_mayBeJoined_18 (by decide) ?_
      exact jx_zret d_M_mayBeJoined_22 rfl (by first | exact Or.inl rfl | exact Or.inr rfl) (by omega) (by omega) (by rw [hp.2.1 c8] at k; exact k)
    · refine jx_iload_n (i := 1) d_M_mayBeJoined_11 rfl rfl ?_
      refine jx_bipush (v := 7) d_M_mayBeJoined_12 (by decide) ?_
      refine jx_icmp_ne (tgt := 21) d_M_mayBeJoined_14 (by decide) (fun c14 => ?_) (fun c14 => ?_)
      · refine jx_iconst (v := 0) d_M_mayBeJoined_21 (by decide) ?_
        exact jx_zret d_M_mayBeJoined_22 rfl (by first | exact Or.inl rfl | exact Or.inr rfl) (by omega) (by omega) (by rw [hp.2.2.2 c2 c8 c14] at k; exact k)
      · refine jx_iconst (v := 1) d_M_mayBeJoined_17 (by decide) ?_
        refine jx_goto (tgt := 22) d_M_mayBeJoined_18 (by decide) ?_
        exact jx_zret d_M_mayBeJoined_22 rfl (by first | exact Or.inl rfl | exact Or.inr rfl) (by omega) (by omega) (by rw [hp.2.2.1 c14] at k; exact k)
theorem c_M_mayBeTakenBack {kn : Nat} {fs : List Value} (hkn : kn ≤ 8) (hB : M b = some (.inl (5, fs))) (k : Z (some (.int (kf_b (sp_tb (nI kn))))) M sz) : jx_Cr md_M_mayBeTakenBack G d [.ref b, .int (nI kn)] M sz 0 0 Z := by
  refine jx_ent rfl (Nat.le_of_ble_eq_true rfl) (l := [some (.ref b), some (.int (nI kn))]) (by simp [jx_le, jx_eas, Value.category]) (fun hlt => ?_)
  have hp := m_tb kn hkn
  refine jx_iload_n (i := 1) d_M_mayBeTakenBack_0 rfl rfl ?_
  refine jx_if_eq (tgt := 16) d_M_mayBeTakenBack_1 (by decide) (fun c1 => ?_) (fun c1 => ?_)
  · refine jx_iconst (v := 1) d_M_mayBeTakenBack_16 (by decide) ?_
    refine jx_goto (tgt := 21) d_M_mayBeTakenBack_17 (by decide) ?_
    exact jx_zret d_M_mayBeTakenBack_21 rfl (by first | exact Or.inl rfl | exact Or.inr rfl) (by omega) (by omega) (by rw [hp.1 c1] at k; exact k)
  · refine jx_iload_n (i := 1) d_M_mayBeTakenBack_4 rfl rfl ?_
    refine jx_bipush (v := 6) d_M_mayBeTakenBack_5 (by decide) ?_
    refine jx_icmp_eq (tgt := 16) d_M_mayBeTakenBack_7 (by decide) (fun c7 => ?_) (fun c7 => ?_)
    · refine jx_iconst (v := 1) d_M_mayBeTakenBack_16 (by decide) ?_
      refine jx_goto (tgt := 21) d_M_mayBeTakenBack_17 (by decide) ?_
      exact jx_zret d_M_mayBeTakenBack_21 rfl (by first | exact Or.inl rfl | exact Or.inr rfl) (by omega) (by omega) (by rw [hp.2.1 c7] at k; exact k)
    · refine jx_iload_n (i := 1) d_M_mayBeTakenBack_10 rfl rfl ?_
      refine jx_bipush (v := 7) d_M_mayBeTakenBack_11 (by decide) ?_
      refine jx_icmp_ne (tgt := 20) d_M_mayBeTakenBack_13 (by decide) (fun c13 => ?_) (fun c13 => ?_)
      · refine jx_iconst (v := 0) d_M_mayBeTakenBack_20 (by decide) ?_
        exact jx_zret d_M_mayBeTakenBack_21 rfl (by first | exact Or.inl rfl | exact Or.inr rfl) (by omega) (by omega) (by rw [hp.2.2.2 c1 c7 c13] at k; exact k)
      · refine jx_iconst (v := 1) d_M_mayBeTakenBack_16 (by decide) ?_
        refine jx_goto (tgt := 21) d_M_mayBeTakenBack_17 (by decide) ?_
        exact jx_zret d_M_mayBeTakenBack_21 rfl (by first | exact Or.inl rfl | exact Or.inr rfl) (by omega) (by omega) (by rw [hp.2.2.1 c13] at k; exact k)
theorem c_M_failsAtIt {f : Nat} (hf : f < nF) (hN : mW M b la wi en pe cd lr fr gt lt tk lc db fc le nF fd fw nK nm kd nS sn nA ac nO oc) (k : Z (some (.int (kf_b (sp_ff fd fw v f)))) M sz) : jx_Cr md_M_failsAtIt G d [.ref b, .int (nI f), .long v] M sz 0 0 Z := by
  refine jx_ent rfl (Nat.le_of_ble_eq_true rfl) (l := [some (.ref b), some (.int (nI f)), some (.long v), none, none, none]) (by simp [jx_le, jx_eas, Value.category]) (fun hlt => ?_)
  obtain ⟨mk, ki, st, nu, fa, fl, nn, si, wo, ti, va, so, hmk, hB, ⟨h1, h2, h3, h4, h5, h6, h7, h8, h9, h10, h11, h12, h13⟩, hF, hK, hS5, hS⟩ := hN
  have hnF := hF.1
  obtain ⟨f1, f2, f3, f4, f5, f6⟩ := hF.2.1 f hf
  have hfa : fa f = nI (fd f).2.2.2.1 := by rw [hF.2.2 f (by omega), if_pos hf]
  rw [sp_ff, ← sp_ex_congr (P := fun j => fl (4 * f + j) == v) (fun i hi => by rw [f6 i hi])] at k
  generalize hcn : (fd f).2.2.2.1 = n at *
  have loop : ∀ (j i : Nat), i + j = n → jx_V md_M_failsAtIt [] G (jx_rm d 0 0) (jx_Q1 G 0 0 Z) 6 [some (.ref b), some (.int (nI f)), some (.long v), none, some (.int (kf_b (sp_ex (fun j => fl (4 * f + j) == v) i))), some (.int (nI i))] [] M sz 0 0 := by
    intro j
    induction j with
    | zero =>
      intro i hi
      refine jx_iload d_M_failsAtIt_6 rfl ?_
      refine jx_aload_n (i := 0) d_M_failsAtIt_8 rfl rfl ?_
      refine jx_getf d_M_failsAtIt_9 gf_M_20 hB rfl ?_
      refine jx_iload_n (i := 1) d_M_failsAtIt_12 rfl rfl ?_
      refine jx_ialdj d_M_failsAtIt_13 h4 rfl (by omega) (by omega) ?_
      refine jx_icmp_ge (tgt := 49) d_M_failsAtIt_14 (by decide) (fun c14 => ?_) (fun c14 => ?_)
      · refine jx_iload d_M_failsAtIt_49 rfl ?_
        exact jx_zret d_M_failsAtIt_51 rfl (kf_b01 _) (by omega) (by omega) (by rw [show n = i by omega] at k; exact k)
      · rw [hfa] at c14
        exact absurd ((nI_leI (by omega) (by omega)).mpr (by omega)) c14
    | succ j ih =>
      intro i hi
      refine jx_iload d_M_failsAtIt_6 rfl ?_
      refine jx_aload_n (i := 0) d_M_failsAtIt_8 rfl rfl ?_
      refine jx_getf d_M_failsAtIt_9 gf_M_20 hB rfl ?_
      refine jx_iload_n (i := 1) d_M_failsAtIt_12 rfl rfl ?_
      refine jx_ialdj d_M_failsAtIt_13 h4 rfl (by omega) (by omega) ?_
      refine jx_icmp_ge (tgt := 49) d_M_failsAtIt_14 (by decide) (fun c14 => ?_) (fun c14 => ?_)
      · rw [hfa] at c14
        exact absurd ((nI_leI (by omega) (by omega)).mp c14) (by omega)
      · refine jx_iload d_M_failsAtIt_17 rfl ?_
        refine jx_aload_n (i := 0) d_M_failsAtIt_19 rfl rfl ?_
        refine jx_getf d_M_failsAtIt_20 gf_M_23 hB rfl ?_
        refine jx_iconst (v := 4) d_M_failsAtIt_23 (by decide) ?_
        refine jx_iload_n (i := 1) d_M_failsAtIt_24 rfl rfl ?_
        refine jx_imul d_M_failsAtIt_25 ?_
        refine jx_iload d_M_failsAtIt_26 rfl ?_
        refine jx_iadd d_M_failsAtIt_28 ?_
        refine jx_laldj d_M_failsAtIt_29 h5 (e4 _ _) (by omega) (by omega) ?_
        refine jx_lload_n (i := 2) d_M_failsAtIt_30 rfl rfl ?_
        refine jx_l_ne (tgt := 39) d_M_failsAtIt_31 d_M_failsAtIt_32 (by decide) (fun c31 => ?_) (fun c31 => ?_)
        · refine jx_iconst (v := 0) d_M_failsAtIt_39 (by decide) ?_
          refine jx_ior d_M_failsAtIt_40 ?_
          refine jx_istore d_M_failsAtIt_41 (Nat.le_of_ble_eq_true rfl) (jx_e6_4 (by trivial)) ?_
          refine jx_iinc d_M_failsAtIt_43 rfl (Nat.le_of_ble_eq_true rfl) (jx_e6_5 (by trivial)) ?_
          refine jx_goto (tgt := 6) d_M_failsAtIt_46 (by decide) ?_
          rw [show (0 : Int32) = kf_b (fl (4 * f + i) == v) by simp [kf_b, c31], kf_b_or, nI_1]
          exact ih (i + 1) (by omega)
        · refine jx_iconst (v := 1) d_M_failsAtIt_35 (by decide) ?_
          refine jx_goto (tgt := 40) d_M_failsAtIt_36 (by decide) ?_
          refine jx_ior d_M_failsAtIt_40 ?_
          refine jx_istore d_M_failsAtIt_41 (Nat.le_of_ble_eq_true rfl) (jx_e6_4 (by trivial)) ?_
          refine jx_iinc d_M_failsAtIt_43 rfl (Nat.le_of_ble_eq_true rfl) (jx_e6_5 (by trivial)) ?_
          refine jx_goto (tgt := 6) d_M_failsAtIt_46 (by decide) ?_
          rw [show (1 : Int32) = kf_b (fl (4 * f + i) == v) by simp [kf_b, c31], kf_b_or]
          rw [show kf_b (fl (4 * f + i) == v) = 1 by simp [kf_b, c31], nI_1]
          exact ih (i + 1) (by omega)
  refine jx_iconst (v := 0) d_M_failsAtIt_0 (by decide) ?_
  refine jx_istore d_M_failsAtIt_1 (Nat.le_of_ble_eq_true rfl) (jx_e6_4 (by trivial)) ?_
  refine jx_iconst (v := 0) d_M_failsAtIt_3 (by decide) ?_
  refine jx_istore d_M_failsAtIt_4 (Nat.le_of_ble_eq_true rfl) (jx_e6_5 (by trivial)) ?_
  exact loop n 0 (by omega)
theorem c_M_causeOf (hd : 0 < d) (hN : mW M b la wi en pe cd lr fr gt lt tk lc db fc le nF fd fw nK nm kd nS sn nA ac nO oc) (k : Z (some (.int (kf_ix (sp_ix (sp_ff fd fw v) nF)))) M sz) : jx_Cr md_M_causeOf G d [.ref b, .long v] M sz 0 0 Z := by
  refine jx_ent rfl (Nat.le_of_ble_eq_true rfl) (l := [some (.ref b), some (.long v), none, none]) (by simp [jx_le, jx_eas, Value.category]) (fun hlt => ?_)
  obtain ⟨mk, ki, st, nu, fa, fl, nn, si, wo, ti, va, so, hmk, hB, hO, hF, hK, hS5, hS⟩ := id hN
  have hnF := hF.1
  have loop : ∀ (j i : Nat), i + j = nF → sp_ix (sp_ff fd fw v) i = none → jx_V md_M_causeOf [] G (jx_rm d 0 0) (jx_Q1 G 0 0 Z) 2 [some (.ref b), some (.long v), none, some (.int (nI i))] [] M sz 0 0 := by
    intro j
    induction j with
    | zero =>
      intro i hi hP
      refine jx_iload_n (i := 3) d_M_causeOf_2 rfl rfl ?_
      refine jx_aload_n (i := 0) d_M_causeOf_3 rfl rfl ?_
      refine jx_getf d_M_causeOf_4 gf_M_71 hB rfl ?_
      refine jx_icmp_ge (tgt := 27) d_M_causeOf_7 (by decide) (fun c7 => ?_) (fun c7 => ?_)
      · refine jx_iconst (v := (-1)) d_M_causeOf_27 (by decide) ?_
        exact jx_iret d_M_causeOf_28 rfl (by omega) (by omega) (by rw [show nF = i by omega, hP] at k; exact k)
      · exact absurd ((nI_leI (by omega) (by omega)).mpr (by omega)) c7
    | succ j ih =>
      intro i hi hP
      refine jx_iload_n (i := 3) d_M_causeOf_2 rfl rfl ?_
      refine jx_aload_n (i := 0) d_M_causeOf_3 rfl rfl ?_
      refine jx_getf d_M_causeOf_4 gf_M_71 hB rfl ?_
      refine jx_icmp_ge (tgt := 27) d_M_causeOf_7 (by decide) (fun c7 => ?_) (fun c7 => ?_)
      · exact absurd ((nI_leI (by omega) (by omega)).mp c7) (by omega)
      · refine jx_aload_n (i := 0) d_M_causeOf_10 rfl rfl ?_
        refine jx_iload_n (i := 3) d_M_causeOf_11 rfl rfl ?_
        refine jx_lload_n (i := 1) d_M_causeOf_12 rfl rfl ?_
        refine jx_callV2 d_M_causeOf_13 mv_M_87 hB rfl (jx_ok_rm (by omega) (Nat.le_of_ble_eq_true rfl)) (Nat.le_of_ble_eq_true rfl) (jx_rmc (by omega)) (jx_rms (by omega)) (c_M_failsAtIt (d := 0) (show i < nF by omega) hN ?_)
        dsimp only [Option.toList, List.cons_append, List.nil_append]
        refine jx_if_eq (tgt := 21) d_M_causeOf_16 (by decide) (fun c16 => ?_) (fun c16 => ?_)
        · refine jx_iinc d_M_causeOf_21 rfl (Nat.le_of_ble_eq_true rfl) (jx_e4_3 (by trivial)) ?_
          refine jx_goto (tgt := 2) d_M_causeOf_24 (by decide) ?_
          rw [nI_1]
          refine ih (i + 1) (by omega) ?_
          simp [sp_ix, hP, kf_b_ne c16]
        · refine jx_iload_n (i := 3) d_M_causeOf_19 rfl rfl ?_
          exact jx_iret d_M_causeOf_20 rfl (by omega) (by omega) (by
            rw [sp_ix_at (i := i) hP (kf_b_ne0 c16) (by omega)] at k
            exact k)
  refine jx_iconst (v := 0) d_M_causeOf_0 (by decide) ?_
  refine jx_istore_n (i := 3) d_M_causeOf_1 rfl (Nat.le_of_ble_eq_true rfl) (jx_e4_3 (by trivial)) ?_
  exact loop nF 0 (by omega) rfl
theorem c_M_step {f : Nat} {fi : Bool} (hf : f < nF) (hN : mW M b la wi en pe cd lr fr gt lt tk lc db fc le nF fd fw nK nm kd nS sn nA ac nO oc) (k : Z (some (.long (sp_st (fd f).1 (fd f).2.2.1 s0 v (if fi then 0 else t0 - bf) fi))) M sz) : jx_Cr md_M_step G d [.ref b, .int (nI f), .long s0, .long t0, .long v, .int (kf_b fi), .long bf] M sz 0 0 Z := by
  refine jx_ent rfl (Nat.le_of_ble_eq_true rfl) (l := [some (.ref b), some (.int (nI f)), some (.long s0), none, some (.long t0), none, some (.long v), none, some (.int (kf_b fi)), some (.long bf), none, none, none]) (by simp [jx_le, jx_eas, Value.category]) (fun hlt => ?_)
  obtain ⟨mk, ki, st, nu, fa, fl, nn, si, wo, ti, va, so, hmk, hB, ⟨h1, h2, h3, h4, h5, h6, h7, h8, h9, h10, h11, h12, h13⟩, hF, hK, hS5, hS⟩ := hN
  have hnF := hF.1
  obtain ⟨f1, f2, f3, f4, f5, f6⟩ := hF.2.1 f hf
  refine jx_aload_n (i := 0) d_M_step_0 rfl rfl ?_
  refine jx_getf d_M_step_1 gf_M_7 hB rfl ?_
  refine jx_iload_n (i := 1) d_M_step_4 rfl rfl ?_
  refine jx_ialdj d_M_step_5 h1 rfl (by omega) (by omega) ?_
  rw [f3]
  rw [← f5] at k
  generalize hcn : (fd f).1 = kn at *
  rcases (show kn = 0 ∨ kn = 1 ∨ kn = 2 ∨ kn = 3 ∨ kn = 4 ∨ kn = 5 ∨ kn = 6 ∨ kn = 7 ∨ kn = 8 by omega) with rfl | rfl | rfl | rfl | rfl | rfl | rfl | rfl | rfl
  · refine jx_tableIn (tgt := 52) d_M_step_6 (by decide) (by decide) rfl (by decide) ?_
    refine jx_lload_n (i := 2) d_M_step_52 rfl rfl ?_
    refine jx_lload d_M_step_53 rfl ?_
    refine jx_ladd d_M_step_55 ?_
    exact jx_lret d_M_step_56 rfl (by omega) (by omega) k
  · refine jx_tableIn (tgt := 57) d_M_step_6 (by decide) (by decide) rfl (by decide) ?_
    refine jx_lload_n (i := 2) d_M_step_57 rfl rfl ?_
    refine jx_lload d_M_step_58 rfl ?_
    refine jx_l_le (tgt := 68) d_M_step_60 d_M_step_61 (by decide) (fun c60 => ?_) (fun c60 => ?_)
    · refine jx_lload d_M_step_68 rfl ?_
      exact jx_lret d_M_step_70 rfl (by omega) (by omega) (by rw [sp_st, l_mx c60] at k; exact k)
    · refine jx_lload_n (i := 2) d_M_step_64 rfl rfl ?_
      refine jx_goto (tgt := 70) d_M_step_65 (by decide) ?_
      exact jx_lret d_M_step_70 rfl (by omega) (by omega) (by rw [sp_st, if_pos (l_le (l_gt c60))] at k; exact k)
  · refine jx_tableIn (tgt := 71) d_M_step_6 (by decide) (by decide) rfl (by decide) ?_
    refine jx_lload_n (i := 2) d_M_step_71 rfl rfl ?_
    refine jx_lload d_M_step_72 rfl ?_
    refine jx_l_ge (tgt := 82) d_M_step_74 d_M_step_75 (by decide) (fun c74 => ?_) (fun c74 => ?_)
    · refine jx_lload d_M_step_82 rfl ?_
      exact jx_lret d_M_step_84 rfl (by omega) (by omega) (by rw [sp_st, l_mn c74] at k; exact k)
    · refine jx_lload_n (i := 2) d_M_step_78 rfl rfl ?_
      refine jx_goto (tgt := 84) d_M_step_79 (by decide) ?_
      exact jx_lret d_M_step_84 rfl (by omega) (by omega) (by rw [sp_st, if_pos (l_le (l_gt c74))] at k; exact k)
  · refine jx_tableIn (tgt := 85) d_M_step_6 (by decide) (by decide) rfl (by decide) ?_
    refine jx_lload d_M_step_85 rfl ?_
    exact jx_lret d_M_step_87 rfl (by omega) (by omega) k
  · refine jx_tableIn (tgt := 88) d_M_step_6 (by decide) (by decide) rfl (by decide) ?_
    refine jx_iload d_M_step_88 rfl ?_
    refine jx_if_eq (tgt := 98) d_M_step_90 (by decide) (fun c90 => ?_) (fun c90 => ?_)
    · refine jx_lload_n (i := 2) d_M_step_98 rfl rfl ?_
      exact jx_lret d_M_step_99 rfl (by omega) (by omega) (by rw [kf_b_ne c90] at k; exact k)
    · refine jx_lload d_M_step_93 rfl ?_
      refine jx_goto (tgt := 99) d_M_step_95 (by decide) ?_
      exact jx_lret d_M_step_99 rfl (by omega) (by omega) (by rw [kf_b_ne0 c90] at k; exact k)
  · refine jx_tableIn (tgt := 100) d_M_step_6 (by decide) (by decide) rfl (by decide) ?_
    refine jx_lload_n (i := 2) d_M_step_100 rfl rfl ?_
    refine jx_aload_n (i := 0) d_M_step_101 rfl rfl ?_
    refine jx_getf d_M_step_102 gf_M_17 hB rfl ?_
    refine jx_iload_n (i := 1) d_M_step_105 rfl rfl ?_
    refine jx_laldj d_M_step_106 h3 rfl (by omega) (by omega) ?_
    refine jx_lmul d_M_step_107 ?_
    refine jx_lload d_M_step_108 rfl ?_
    refine jx_ladd d_M_step_110 ?_
    exact jx_lret d_M_step_111 rfl (by omega) (by omega) k
  · refine jx_tableIn (tgt := 112) d_M_step_6 (by decide) (by decide) rfl (by decide) ?_
    refine jx_lload_n (i := 2) d_M_step_112 rfl rfl ?_
    refine jx_lconst (v := 1) d_M_step_113 (by decide) ?_
    refine jx_ladd d_M_step_114 ?_
    exact jx_lret d_M_step_115 rfl (by omega) (by omega) k
  · refine jx_tableIn (tgt := 116) d_M_step_6 (by decide) (by decide) rfl (by decide) ?_
    refine jx_lload_n (i := 2) d_M_step_116 rfl rfl ?_
    refine jx_lload d_M_step_117 rfl ?_
    refine jx_aload_n (i := 0) d_M_step_119 rfl rfl ?_
    refine jx_getf d_M_step_120 gf_M_17 hB rfl ?_
    refine jx_iload_n (i := 1) d_M_step_123 rfl rfl ?_
    refine jx_laldj d_M_step_124 h3 rfl (by omega) (by omega) ?_
    refine jx_lmul d_M_step_125 ?_
    refine jx_lxor d_M_step_126 ?_
    exact jx_lret d_M_step_127 rfl (by omega) (by omega) k
  · refine jx_tableOut (tgt := 128) d_M_step_6 (by decide) (by decide) ?_
    refine jx_iload d_M_step_128 rfl ?_
    refine jx_if_eq (tgt := 137) d_M_step_130 (by decide) (fun c130 => ?_) (fun c130 => ?_)
    · rw [kf_b_ne c130] at k
      refine jx_lload d_M_step_137 rfl ?_
      refine jx_lload d_M_step_139 rfl ?_
      refine jx_lsub d_M_step_141 ?_
      refine jx_lstore d_M_step_142 (Nat.le_of_ble_eq_true rfl) (jx_f13_11 (by trivial)) ?_
      refine jx_lload_n (i := 2) d_M_step_144 rfl rfl ?_
      refine jx_lload d_M_step_145 rfl ?_
      refine jx_l_le (tgt := 155) d_M_step_147 d_M_step_148 (by decide) (fun c147 => ?_) (fun c147 => ?_)
      · refine jx_lload d_M_step_155 rfl ?_
        exact jx_lret d_M_step_157 rfl (by omega) (by omega) (by
          have e := l_mx c147
          simp only [sp_st, Bool.false_eq_true, if_false] at k
          rw [e] at k
          exact k)
      · refine jx_lload_n (i := 2) d_M_step_151 rfl rfl ?_
        refine jx_goto (tgt := 157) d_M_step_152 (by decide) ?_
        exact jx_lret d_M_step_157 rfl (by omega) (by omega) (by
          simp only [sp_st, Bool.false_eq_true, if_false] at k
          rw [if_pos (l_le (l_gt c147))] at k
          exact k)
    · rw [kf_b_ne0 c130] at k
      refine jx_lconst (v := 0) d_M_step_133 (by decide) ?_
      refine jx_goto (tgt := 142) d_M_step_134 (by decide) ?_
      refine jx_lstore d_M_step_142 (Nat.le_of_ble_eq_true rfl) (jx_f13_11 (by trivial)) ?_
      refine jx_lload_n (i := 2) d_M_step_144 rfl rfl ?_
      refine jx_lload d_M_step_145 rfl ?_
      refine jx_l_le (tgt := 155) d_M_step_147 d_M_step_148 (by decide) (fun c147 => ?_) (fun c147 => ?_)
      · refine jx_lload d_M_step_155 rfl ?_
        exact jx_lret d_M_step_157 rfl (by omega) (by omega) (by
          have e := l_mx c147
          simp only [sp_st, if_true] at k
          rw [e] at k
          exact k)
      · refine jx_lload_n (i := 2) d_M_step_151 rfl rfl ?_
        refine jx_goto (tgt := 157) d_M_step_152 (by decide) ?_
        exact jx_lret d_M_step_157 rfl (by omega) (by omega) (by
          simp only [sp_st, if_true] at k
          rw [if_pos (l_le (l_gt c147))] at k
          exact k)
end CM2
