/-! PART 40: the reference: what is read -/
def mFr (b : Nat) (M M' : jx_H) : Prop := ∀ q, (q < b ∨ b + 13 < q) → M' q = M q
theorem mO.to {M M' : jx_H} {b : Nat} {ki : Nat → Int32} {st nu : Nat → Int64} {fa : Nat → Int32} {fl nn : Nat → Int64} {si wo : Nat → Int32} {ti va so ac oc : Nat → Int64} (h : mO M b ki st nu fa fl nn si wo ti va so ac oc) (hf : ∀ q, b + 1 ≤ q → q ≤ b + 13 → M' q = M q) : mO M' b ki st nu fa fl nn si wo ti va so ac oc := by
  obtain ⟨h1, h2, h3, h4, h5, h6, h7, h8, h9, h10, h11, h12, h13⟩ := h
  exact ⟨(hf _ (by omega) (by omega)).trans h1, (hf _ (by omega) (by omega)).trans h2, (hf _ (by omega) (by omega)).trans h3, (hf _ (by omega) (by omega)).trans h4, (hf _ (by omega) (by omega)).trans h5, (hf _ (by omega) (by omega)).trans h6, (hf _ (by omega) (by omega)).trans h7, (hf _ (by omega) (by omega)).trans h8, (hf _ (by omega) (by omega)).trans h9, (hf _ (by omega) (by omega)).trans h10, (hf _ (by omega) (by omega)).trans h11, (hf _ (by omega) (by omega)).trans h12, (hf _ (by omega) (by omega)).trans h13⟩
theorem kf_ix_none : kf_ix none = -1 := rfl
theorem kf_ix_some (j : Nat) : kf_ix (some j) = nI j := rfl
theorem nI_m1 {j : Nat} (h : j < 2 ^ 31) : ¬ nI j = -1 := fun hh => nI_pos h (by rw [hh]; decide)
section CM4
variable {G : jx_G} {d b nF nK sz nS nA nO : Nat} {la wi en pe cd lr fr tk lc db fc le x x2 : Int32} {gt lt t v key s0 t0 bf bd : Int64} {nm : Nat → Int64} {kd : Nat → sp_key} {fd : sp_fd} {fw : Nat → Nat → Int64} {sn ac oc : Nat → Int64} {M : jx_H} {Z : Option Value → jx_H → Nat → Prop}
theorem c_M_watermark (hN : mW M b la wi en pe cd lr fr gt lt tk lc db fc le nF fd fw nK nm kd nS sn nA ac nO oc) (k0 : sp_wm gt = true → ∀ M', mW M' b la wi en pe 0 lr fr gt lt tk lc db fc le nF fd fw nK nm kd nS sn nA ac nO oc → mFr b M M' → Z (some (.long (gt - la.toInt64))) M' sz) (k1 : sp_wm gt = false → ∀ M', mW M' b la wi en pe 1 lr fr gt lt tk lc db fc le nF fd fw nK nm kd nS sn nA ac nO oc → mFr b M M' → Z (some (.long 0)) M' sz) : jx_Cr md_M_watermark G d [.ref b] M sz 0 0 Z := by
  refine jx_ent rfl (Nat.le_of_ble_eq_true rfl) (l := [some (.ref b)]) (by simp [jx_le, jx_eas, Value.category]) (fun hlt => ?_)
  obtain ⟨mk, ki, st, nu, fa, fl, nn, si, wo, ti, va, so, hmk, hB, hO, hF, hK, hS5, hS⟩ := id hN
  have hU : ∀ cd' : Int32, mW (jx_up M b (kf_M la wi en pe cd' nF b lr fr nK nS (kf_b (sp_wm gt)) mk lt nA nO tk lc db fc le)) b la wi en pe cd' lr fr gt lt tk lc db fc le nF fd fw nK nm kd nS sn nA ac nO oc := fun cd' => ⟨mk, ki, st, nu, fa, fl, nn, si, wo, ti, va, so, hmk, jx_up_s _ _ _, hO.to (fun q q1 q2 => jx_up_n _ _ (by omega)), hF, hK, hS5, hS⟩
  refine jx_aload_n (i := 0) d_M_watermark_0 rfl rfl ?_
  refine jx_aload_n (i := 0) d_M_watermark_1 rfl rfl ?_
  refine jx_getf d_M_watermark_2 gf_M_110 hB rfl ?_
  refine jx_if_eq (tgt := 12) d_M_watermark_5 (by decide) (fun c5 => ?_) (fun c5 => ?_)
  · refine jx_iconst (v := 1) d_M_watermark_12 (by decide) ?_
    refine jx_putf d_M_watermark_13 pf_M_67 hB (Nat.le_of_ble_eq_true rfl) rfl rfl ?_
    refine jx_aload_n (i := 0) d_M_watermark_16 rfl rfl ?_
    refine jx_getf d_M_watermark_17 gf_M_67 (jx_up_s _ _ _) rfl ?_
    refine jx_if_le (tgt := 27) d_M_watermark_20 (by decide) (fun c20 => ?_) (fun c20 => ?_)
    · exact absurd c20 (by decide)
    · refine jx_lconst (v := 0) d_M_watermark_23 (by decide) ?_
      refine jx_goto (tgt := 31) d_M_watermark_24 (by decide) ?_
      exact jx_lret d_M_watermark_31 rfl (by omega) (by omega) (k1 (kf_b_ne c5) _ (hU 1) (fun q hq => jx_up_n _ _ (by omega)))
  · refine jx_iconst (v := 0) d_M_watermark_8 (by decide) ?_
    refine jx_goto (tgt := 13) d_M_watermark_9 (by decide) ?_
    refine jx_putf d_M_watermark_13 pf_M_67 hB (Nat.le_of_ble_eq_true rfl) rfl rfl ?_
    refine jx_aload_n (i := 0) d_M_watermark_16 rfl rfl ?_
    refine jx_getf d_M_watermark_17 gf_M_67 (jx_up_s _ _ _) rfl ?_
    refine jx_if_le (tgt := 27) d_M_watermark_20 (by decide) (fun c20 => ?_) (fun c20 => ?_)
    · refine jx_aload_n (i := 0) d_M_watermark_27 rfl rfl ?_
      refine jx_getf d_M_watermark_28 gf_M_114 (jx_up_s _ _ _) rfl ?_
      exact jx_lret d_M_watermark_31 rfl (by omega) (by omega) (by rw [hmk (kf_b_ne0 c5)] at *; exact k0 (kf_b_ne0 c5) _ (hU 0) (fun q hq => jx_up_n _ _ (by omega)))
    · exact absurd (by decide) c20
theorem c_M_folded (hd : 0 < d) (hN : mW M b la wi en pe cd lr fr gt lt tk lc db fc le nF fd fw nK nm kd nS sn nA ac nO oc) (k0 : ∀ j, sp_ix (fun j => nm j == key) nK = some j → ∀ M', mW M' b la wi en pe 0 lr fr gt lt tk lc db fc le nF fd fw nK nm kd nS sn nA ac nO oc → mFr b M M' → Z (some (.int 1)) M' sz) (k1 : sp_ix (fun j => nm j == key) nK = none → ∀ M', mW M' b la wi en pe 1 lr fr gt lt tk lc db fc le nF fd fw nK nm kd nS sn nA ac nO oc → mFr b M M' → Z (some (.int 0)) M' sz) : jx_Cr md_M_folded G d [.ref b, .long key] M sz 0 0 Z := by
  refine jx_ent rfl (Nat.le_of_ble_eq_true rfl) (l := [some (.ref b), some (.long key), none]) (by simp [jx_le, jx_eas, Value.category]) (fun hlt => ?_)
  obtain ⟨mk, ki, st, nu, fa, fl, nn, si, wo, ti, va, so, hmk, hB, hO, hF, hK, hS5, hS⟩ := id hN
  have hU : ∀ cd' : Int32, mW (jx_up M b (kf_M la wi en pe cd' nF b lr fr nK nS (kf_b (sp_wm gt)) mk lt nA nO tk lc db fc le)) b la wi en pe cd' lr fr gt lt tk lc db fc le nF fd fw nK nm kd nS sn nA ac nO oc := fun cd' => ⟨mk, ki, st, nu, fa, fl, nn, si, wo, ti, va, so, hmk, jx_up_s _ _ _, hO.to (fun q q1 q2 => jx_up_n _ _ (by omega)), hF, hK, hS5, hS⟩
  have hnK := hK.1
  refine jx_aload_n (i := 0) d_M_folded_0 rfl rfl ?_
  refine jx_aload_n (i := 0) d_M_folded_1 rfl rfl ?_
  refine jx_lload_n (i := 1) d_M_folded_2 rfl rfl ?_
  refine jx_callV1 d_M_folded_3 mv_M_125 hB rfl (jx_ok_rm (by omega) (Nat.le_of_ble_eq_true rfl)) (Nat.le_of_ble_eq_true rfl) (jx_rmc (by omega)) (jx_rms (by omega)) (c_M_keyOf (d := 0) hN ?_)
  dsimp only [Option.toList, List.cons_append, List.nil_append]
  cases hj : sp_ix (fun j => nm j == key) nK with
  | none =>
    refine jx_iconst (v := (-1)) d_M_folded_6 (by decide) ?_
    refine jx_icmp_ne (tgt := 14) d_M_folded_7 (by decide) (fun c7 => ?_) (fun c7 => ?_)
    · exact absurd kf_ix_none c7
    · refine jx_iconst (v := 1) d_M_folded_10 (by decide) ?_
      refine jx_goto (tgt := 15) d_M_folded_11 (by decide) ?_
      refine jx_putf d_M_folded_15 pf_M_67 hB (Nat.le_of_ble_eq_true rfl) rfl rfl ?_
      refine jx_aload_n (i := 0) d_M_folded_18 rfl rfl ?_
      refine jx_getf d_M_folded_19 gf_M_67 (jx_up_s _ _ _) rfl ?_
      refine jx_if_ne (tgt := 29) d_M_folded_22 (by decide) (fun c22 => ?_) (fun c22 => ?_)
      · refine jx_iconst (v := 0) d_M_folded_29 (by decide) ?_
        exact jx_zret d_M_folded_30 rfl (by first | exact Or.inl rfl | exact Or.inr rfl) (by omega) (by omega) (k1 hj _ (hU 1) (fun q hq => jx_up_n _ _ (by omega)))
      · exact absurd c22 (by decide)
  | some j =>
    have hjK := (sp_ix_lt hj).1
    refine jx_iconst (v := (-1)) d_M_folded_6 (by decide) ?_
    refine jx_icmp_ne (tgt := 14) d_M_folded_7 (by decide) (fun c7 => ?_) (fun c7 => ?_)
    · refine jx_iconst (v := 0) d_M_folded_14 (by decide) ?_
      refine jx_putf d_M_folded_15 pf_M_67 hB (Nat.le_of_ble_eq_true rfl) rfl rfl ?_
      refine jx_aload_n (i := 0) d_M_folded_18 rfl rfl ?_
      refine jx_getf d_M_folded_19 gf_M_67 (jx_up_s _ _ _) rfl ?_
      refine jx_if_ne (tgt := 29) d_M_folded_22 (by decide) (fun c22 => ?_) (fun c22 => ?_)
      · exact absurd rfl c22
      · refine jx_iconst (v := 1) d_M_folded_25 (by decide) ?_
        refine jx_goto (tgt := 30) d_M_folded_26 (by decide) ?_
        exact jx_zret d_M_folded_30 rfl (by first | exact Or.inl rfl | exact Or.inr rfl) (by omega) (by omega) (k0 j hj _ (hU 0) (fun q hq => jx_up_n _ _ (by omega)))
    · exact absurd c7 (nI_m1 (by omega))
theorem c_M_state (hd : 1 < d) (hN : mW M b la wi en pe cd lr fr gt lt tk lc db fc le nF fd fw nK nm kd nS sn nA ac nO oc) (k0 : ∀ f j, f < nF → x = nI f → sp_ix (fun j => nm j == key) nK = some j → ∀ M', mW M' b la wi en pe 0 lr fr gt lt tk lc db fc le nF fd fw nK nm kd nS sn nA ac nO oc → mFr b M M' → Z (some (.long (sp_fb (fd f).1 (fd f).2.1 (fd f).2.2.1 (kd j).2.2.1 (kd j).2.2.2.1 1125899906842624 (kd j).1))) M' sz) (k1 : ¬ ((0 ≤ x.toInt ∧ x.toInt < nF) ∧ (sp_ix (fun j => nm j == key) nK).isSome) → ∀ M', mW M' b la wi en pe 1 lr fr gt lt tk lc db fc le nF fd fw nK nm kd nS sn nA ac nO oc → mFr b M M' → Z (some (.long 0)) M' sz) : jx_Cr md_M_state G d [.ref b, .long key, .int x] M sz 0 0 Z := by
  refine jx_ent rfl (Nat.le_of_ble_eq_true rfl) (l := [some (.ref b), some (.long key), none, some (.int x), none]) (by simp [jx_le, jx_eas, Value.category]) (fun hlt => ?_)
  obtain ⟨mk, ki, st, nu, fa, fl, nn, si, wo, ti, va, so, hmk, hB, hO, hF, hK, hS5, hS⟩ := id hN
  have hU : ∀ cd' : Int32, mW (jx_up M b (kf_M la wi en pe cd' nF b lr fr nK nS (kf_b (sp_wm gt)) mk lt nA nO tk lc db fc le)) b la wi en pe cd' lr fr gt lt tk lc db fc le nF fd fw nK nm kd nS sn nA ac nO oc := fun cd' => ⟨mk, ki, st, nu, fa, fl, nn, si, wo, ti, va, so, hmk, jx_up_s _ _ _, hO.to (fun q q1 q2 => jx_up_n _ _ (by omega)), hF, hK, hS5, hS⟩
  have hnK := hK.1
  have bad : ∀ y : Int32, ¬ ((0 ≤ x.toInt ∧ x.toInt < nF) ∧ (sp_ix (fun j => nm j == key) nK).isSome) → jx_V md_M_state [] G (jx_rm d 0 0) (jx_Q1 G 0 0 Z) 22 [some (.ref b), some (.long key), none, some (.int x), some (.int y)] [.ref b] M sz 0 0 := by
    intro y hn
    refine jx_iconst (v := 1) d_M_state_22 (by decide) ?_
    refine jx_goto (tgt := 27) d_M_state_23 (by decide) ?_
    refine jx_putf d_M_state_27 pf_M_67 hB (Nat.le_of_ble_eq_true rfl) rfl rfl ?_
    refine jx_aload_n (i := 0) d_M_state_30 rfl rfl ?_
    refine jx_getf d_M_state_31 gf_M_67 (jx_up_s _ _ _) rfl ?_
    refine jx_if_le (tgt := 41) d_M_state_34 (by decide) (fun c34 => ?_) (fun c34 => ?_)
    · exact absurd c34 (by decide)
    · refine jx_lconst (v := 0) d_M_state_37 (by decide) ?_
      refine jx_goto (tgt := 51) d_M_state_38 (by decide) ?_
      exact jx_lret d_M_state_51 rfl (by omega) (by omega) (k1 hn _ (hU 1) (fun q hq => jx_up_n _ _ (by omega)))
  refine jx_aload_n (i := 0) d_M_state_0 rfl rfl ?_
  refine jx_lload_n (i := 1) d_M_state_1 rfl rfl ?_
  refine jx_callV1 d_M_state_2 mv_M_125 hB rfl (jx_ok_rm (by omega) (Nat.le_of_ble_eq_true rfl)) (Nat.le_of_ble_eq_true rfl) (jx_rmc (by omega)) (jx_rms (by omega)) (c_M_keyOf (d := 0) hN ?_)
  dsimp only [Option.toList, List.cons_append, List.nil_append]
  refine jx_istore d_M_state_5 (Nat.le_of_ble_eq_true rfl) (jx_e5_4 (by trivial)) ?_
  refine jx_aload_n (i := 0) d_M_state_7 rfl rfl ?_
  refine jx_aload_n (i := 0) d_M_state_8 rfl rfl ?_
  refine jx_iload_n (i := 3) d_M_state_9 rfl rfl ?_
  refine jx_callV1 d_M_state_10 mv_M_83 hB rfl (jx_ok_rm (by omega) (Nat.le_of_ble_eq_true rfl)) (Nat.le_of_ble_eq_true rfl) (jx_rmc (by omega)) (jx_rms (by omega)) (c_M_isFold (d := 0) hN ?_)
  dsimp only [Option.toList, List.cons_append, List.nil_append]
  refine jx_if_eq (tgt := 22) d_M_state_13 (by decide) (fun c13 => ?_) (fun c13 => ?_)
  · exact bad _ (fun h => of_decide_eq_false (kf_b_ne c13) h.1)
  · obtain ⟨f, hf, hxf⟩ := nI_ofI (of_decide_eq_true (kf_b_ne0 c13))
    cases hj : sp_ix (fun j => nm j == key) nK with
    | none =>
      refine jx_iload d_M_state_16 rfl ?_
      refine jx_iconst (v := (-1)) d_M_state_18 (by decide) ?_
      refine jx_icmp_ne (tgt := 26) d_M_state_19 (by decide) (fun c19 => ?_) (fun c19 => ?_)
      · exact absurd kf_ix_none c19
      · exact bad _ (fun h => by rw [hj] at h; cases h.2)
    | some j =>
      have hjK := (sp_ix_lt hj).1
      refine jx_iload d_M_state_16 rfl ?_
      refine jx_iconst (v := (-1)) d_M_state_18 (by decide) ?_
      refine jx_icmp_ne (tgt := 26) d_M_state_19 (by decide) (fun c19 => ?_) (fun c19 => ?_)
      · refine jx_iconst (v := 0) d_M_state_26 (by decide) ?_
        refine jx_putf d_M_state_27 pf_M_67 hB (Nat.le_of_ble_eq_true rfl) rfl rfl ?_
        refine jx_aload_n (i := 0) d_M_state_30 rfl rfl ?_
        refine jx_getf d_M_state_31 gf_M_67 (jx_up_s _ _ _) rfl ?_
        refine jx_if_le (tgt := 41) d_M_state_34 (by decide) (fun c34 => ?_) (fun c34 => ?_)
        · have hk := k0 f j hf hxf hj _ (hU 0) (fun q hq => jx_up_n _ _ (by omega))
          rw [hxf, kf_ix_some]
          refine jx_aload_n (i := 0) d_M_state_41 rfl rfl ?_
          refine jx_iload d_M_state_42 rfl ?_
          refine jx_iload_n (i := 3) d_M_state_44 rfl rfl ?_
          refine jx_ldc2 d_M_state_45 rfl nv_M_177 ?_
          refine jx_callV3 d_M_state_48 mv_M_173 (jx_up_s _ _ _) rfl (jx_ok_rm (by omega) (Nat.le_of_ble_eq_true rfl)) (Nat.le_of_ble_eq_true rfl) (jx_rmc (by omega)) (jx_rms (by omega)) (c_M_foldOf (d := 1) (by omega) hjK hf (hU 0) ?_)
          dsimp only [Option.toList, List.cons_append, List.nil_append]
          exact jx_lret d_M_state_51 rfl (by omega) (by omega) hk
        · exact absurd (by decide) c34
      · exact absurd c19 (nI_m1 (by omega))
theorem c_M_told (hN : mW M b la wi en pe cd lr fr gt lt tk lc db fc le nF fd fw nK nm kd nS sn nA ac nO oc) (k0 : x = 0 → ∀ M', mW M' b la wi en pe 0 lr fr gt lt tk lc db fc le nF fd fw nK nm kd nS sn nA ac nO oc → mFr b M M' → Z (some (.int (nI nF))) M' sz) (k1 : x = 1 → ∀ M', mW M' b la wi en pe 0 lr fr gt lt tk lc db fc le nF fd fw nK nm kd nS sn nA ac nO oc → mFr b M M' → Z (some (.int (nI nK))) M' sz) (k2 : x = 2 → ∀ M', mW M' b la wi en pe 0 lr fr gt lt tk lc db fc le nF fd fw nK nm kd nS sn nA ac nO oc → mFr b M M' → Z (some (.int (nI nA))) M' sz) (k3 : x = 3 → ∀ M', mW M' b la wi en pe 0 lr fr gt lt tk lc db fc le nF fd fw nK nm kd nS sn nA ac nO oc → mFr b M M' → Z (some (.int (nI nO))) M' sz) (k4 : x = 4 → ∀ M', mW M' b la wi en pe 0 lr fr gt lt tk lc db fc le nF fd fw nK nm kd nS sn nA ac nO oc → mFr b M M' → Z (some (.int tk)) M' sz) (k5 : x = 5 → ∀ M', mW M' b la wi en pe 0 lr fr gt lt tk lc db fc le nF fd fw nK nm kd nS sn nA ac nO oc → mFr b M M' → Z (some (.int lc)) M' sz) (k6 : x = 6 → ∀ M', mW M' b la wi en pe 0 lr fr gt lt tk lc db fc le nF fd fw nK nm kd nS sn nA ac nO oc → mFr b M M' → Z (some (.int db)) M' sz) (k7 : x = 7 → ∀ M', mW M' b la wi en pe 0 lr fr gt lt tk lc db fc le nF fd fw nK nm kd nS sn nA ac nO oc → mFr b M M' → Z (some (.int fc)) M' sz) (k8 : x = 8 → ∀ M', mW M' b la wi en pe 0 lr fr gt lt tk lc db fc le nF fd fw nK nm kd nS sn nA ac nO oc → mFr b M M' → Z (some (.int le)) M' sz) (kx : ¬ (¬ x < 0 ∧ x ≤ 8) → ∀ M', mW M' b la wi en pe 1 lr fr gt lt tk lc db fc le nF fd fw nK nm kd nS sn nA ac nO oc → mFr b M M' → Z (some (.int 0)) M' sz) : jx_Cr md_M_told G d [.ref b, .int x] M sz 0 0 Z := by
  refine jx_ent rfl (Nat.le_of_ble_eq_true rfl) (l := [some (.ref b), some (.int x)]) (by simp [jx_le, jx_eas, Value.category]) (fun hlt => ?_)
  obtain ⟨mk, ki, st, nu, fa, fl, nn, si, wo, ti, va, so, hmk, hB, hO, hF, hK, hS5, hS⟩ := id hN
  have hU : ∀ cd' : Int32, mW (jx_up M b (kf_M la wi en pe cd' nF b lr fr nK nS (kf_b (sp_wm gt)) mk lt nA nO tk lc db fc le)) b la wi en pe cd' lr fr gt lt tk lc db fc le nF fd fw nK nm kd nS sn nA ac nO oc := fun cd' => ⟨mk, ki, st, nu, fa, fl, nn, si, wo, ti, va, so, hmk, jx_up_s _ _ _, hO.to (fun q q1 q2 => jx_up_n _ _ (by omega)), hF, hK, hS5, hS⟩
  have bad : ¬ (¬ x < 0 ∧ x ≤ 8) → jx_V md_M_told [] G (jx_rm d 0 0) (jx_Q1 G 0 0 Z) 11 [some (.ref b), some (.int x)] [.ref b] M sz 0 0 := by
    intro hn
    refine jx_iconst (v := 1) d_M_told_11 (by decide) ?_
    refine jx_goto (tgt := 16) d_M_told_12 (by decide) ?_
    refine jx_putf d_M_told_16 pf_M_67 hB (Nat.le_of_ble_eq_true rfl) rfl rfl ?_
    refine jx_aload_n (i := 0) d_M_told_19 rfl rfl ?_
    refine jx_getf d_M_told_20 gf_M_67 (jx_up_s _ _ _) rfl ?_
    refine jx_if_le (tgt := 28) d_M_told_23 (by decide) (fun c23 => ?_) (fun c23 => ?_)
    · exact absurd c23 (by decide)
    · refine jx_iconst (v := 0) d_M_told_26 (by decide) ?_
      exact jx_iret d_M_told_27 rfl (by omega) (by omega) (kx hn _ (hU 1) (fun q hq => jx_up_n _ _ (by omega)))
  refine jx_aload_n (i := 0) d_M_told_0 rfl rfl ?_
  refine jx_iload_n (i := 1) d_M_told_1 rfl rfl ?_
  refine jx_if_lt (tgt := 11) d_M_told_2 (by decide) (fun c2 => ?_) (fun c2 => ?_)
  · exact bad (fun h => h.1 c2)
  · refine jx_iload_n (i := 1) d_M_told_5 rfl rfl ?_
    refine jx_bipush (v := 8) d_M_told_6 (by decide) ?_
    refine jx_icmp_le (tgt := 15) d_M_told_8 (by decide) (fun c8 => ?_) (fun c8 => ?_)
    · refine jx_iconst (v := 0) d_M_told_15 (by decide) ?_
      refine jx_putf d_M_told_16 pf_M_67 hB (Nat.le_of_ble_eq_true rfl) rfl rfl ?_
      refine jx_aload_n (i := 0) d_M_told_19 rfl rfl ?_
      refine jx_getf d_M_told_20 gf_M_67 (jx_up_s _ _ _) rfl ?_
      refine jx_if_le (tgt := 28) d_M_told_23 (by decide) (fun c23 => ?_) (fun c23 => ?_)
      · refine jx_iload_n (i := 1) d_M_told_28 rfl rfl ?_
        obtain ⟨j, hj, hxj⟩ := nI_of2 (M := 8) (n := 8) (by decide) c2 c8
        subst hxj
        match j, hj with
        | 0, _ =>
          refine jx_tableIn (tgt := 76) d_M_told_29 (by decide) (by decide) rfl (by decide) ?_
          refine jx_aload_n (i := 0) d_M_told_76 rfl rfl ?_
          refine jx_getf d_M_told_77 gf_M_71 (jx_up_s _ _ _) rfl ?_
          exact jx_iret d_M_told_80 rfl (by omega) (by omega) (k0 rfl _ (hU 0) (fun q hq => jx_up_n _ _ (by omega)))
        | 1, _ =>
          refine jx_tableIn (tgt := 81) d_M_told_29 (by decide) (by decide) rfl (by decide) ?_
          refine jx_aload_n (i := 0) d_M_told_81 rfl rfl ?_
          refine jx_getf d_M_told_82 gf_M_74 (jx_up_s _ _ _) rfl ?_
          exact jx_iret d_M_told_85 rfl (by omega) (by omega) (k1 rfl _ (hU 0) (fun q hq => jx_up_n _ _ (by omega)))
        | 2, _ =>
          refine jx_tableIn (tgt := 86) d_M_told_29 (by decide) (by decide) rfl (by decide) ?_
          refine jx_aload_n (i := 0) d_M_told_86 rfl rfl ?_
          refine jx_getf d_M_told_87 gf_M_101 (jx_up_s _ _ _) rfl ?_
          exact jx_iret d_M_told_90 rfl (by omega) (by omega) (k2 rfl _ (hU 0) (fun q hq => jx_up_n _ _ (by omega)))
        | 3, _ =>
          refine jx_tableIn (tgt := 91) d_M_told_29 (by decide) (by decide) rfl (by decide) ?_
          refine jx_aload_n (i := 0) d_M_told_91 rfl rfl ?_
          refine jx_getf d_M_told_92 gf_M_170 (jx_up_s _ _ _) rfl ?_
          exact jx_iret d_M_told_95 rfl (by omega) (by omega) (k3 rfl _ (hU 0) (fun q hq => jx_up_n _ _ (by omega)))
        | 4, _ =>
          refine jx_tableIn (tgt := 96) d_M_told_29 (by decide) (by decide) rfl (by decide) ?_
          refine jx_aload_n (i := 0) d_M_told_96 rfl rfl ?_
          refine jx_getf d_M_told_97 gf_M_80 (jx_up_s _ _ _) rfl ?_
          exact jx_iret d_M_told_100 rfl (by omega) (by omega) (k4 rfl _ (hU 0) (fun q hq => jx_up_n _ _ (by omega)))
        | 5, _ =>
          refine jx_tableIn (tgt := 101) d_M_told_29 (by decide) (by decide) rfl (by decide) ?_
          refine jx_aload_n (i := 0) d_M_told_101 rfl rfl ?_
          refine jx_getf d_M_told_102 gf_M_118 (jx_up_s _ _ _) rfl ?_
          exact jx_iret d_M_told_105 rfl (by omega) (by omega) (k5 rfl _ (hU 0) (fun q hq => jx_up_n _ _ (by omega)))
        | 6, _ =>
          refine jx_tableIn (tgt := 106) d_M_told_29 (by decide) (by decide) rfl (by decide) ?_
          refine jx_aload_n (i := 0) d_M_told_106 rfl rfl ?_
          refine jx_getf d_M_told_107 gf_M_132 (jx_up_s _ _ _) rfl ?_
          exact jx_iret d_M_told_110 rfl (by omega) (by omega) (k6 rfl _ (hU 0) (fun q hq => jx_up_n _ _ (by omega)))
        | 7, _ =>
          refine jx_tableIn (tgt := 111) d_M_told_29 (by decide) (by decide) rfl (by decide) ?_
          refine jx_aload_n (i := 0) d_M_told_111 rfl rfl ?_
          refine jx_getf d_M_told_112 gf_M_138 (jx_up_s _ _ _) rfl ?_
          exact jx_iret d_M_told_115 rfl (by omega) (by omega) (k7 rfl _ (hU 0) (fun q hq => jx_up_n _ _ (by omega)))
        | 8, _ =>
          refine jx_tableOut (tgt := 116) d_M_told_29 (by decide) (by decide) ?_
          refine jx_aload_n (i := 0) d_M_told_116 rfl rfl ?_
          refine jx_getf d_M_told_117 gf_M_155 (jx_up_s _ _ _) rfl ?_
          exact jx_iret d_M_told_120 rfl (by omega) (by omega) (k8 rfl _ (hU 0) (fun q hq => jx_up_n _ _ (by omega)))
      · exact absurd (by decide) c23
    · exact bad (fun h => c8 h.2)
end CM4
