/-! PART 41: the reference: key, rowOf, aside, output, joined -/
/-- for a fold that may be joined a step looks at the value alone -/
theorem sp_st_mj {kn : Nat} (h : sp_mj (nI kn) = true) (hk : kn ≤ 8) (p s v g g' : Int64) (b b' : Bool) : sp_st kn p s v g b = sp_st kn p s v g' b' := by
  rcases (show kn = 0 ∨ kn = 1 ∨ kn = 2 ∨ kn = 3 ∨ kn = 4 ∨ kn = 5 ∨ kn = 6 ∨ kn = 7 ∨ kn = 8 by omega) with rfl | rfl | rfl | rfl | rfl | rfl | rfl | rfl | rfl
  all_goals first | (exact absurd h (by decide)) | (simp only [sp_st])
def sp_bm (kn : Nat) (p : Int64) (vl : Nat → Int64) : Nat → Int64 → Int64
  | 0, s => s
  | i + 1, s => sp_bm kn p vl i (sp_st kn p s (vl i) (if false = true then 0 else 0 - 0) false)
theorem sp_bm_bw {kn : Nat} (h : sp_mj (nI kn) = true) (hk : kn ≤ 8) (p : Int64) (tm vl vl' : Nat → Int64) : ∀ (n : Nat) (s : Int64), (∀ i, i < n → vl i = vl' i) → sp_bm kn p vl n s = sp_bw kn p tm vl' n s
  | 0, _, _ => rfl
  | n + 1, s, hv => by
    simp only [sp_bm, sp_bw, sp_sa]
    rw [sp_bm_bw h hk p tm vl vl' n _ (fun i hi => hv i (by omega)), hv n (by omega)]
    rw [sp_st_mj h hk _ _ _ _ (if n = 0 then 0 else tm n - tm (n - 1)) _ (decide (n = 0))]
def sp_jo (kn : Nat) (st p : Int64) (kd : Nat → sp_key) (nK : Nat) : Bool := !sp_mj (nI kn) || !sp_ex (fun j => !(sp_bw kn p (kd j).2.2.1 (kd j).2.2.2.1 (kd j).1 st == sp_fb kn st p (kd j).2.2.1 (kd j).2.2.2.1 1125899906842624 (kd j).1)) nK
theorem kf_b_and (x y : Bool) : kf_b x &&& kf_b y = kf_b (x && y) := by cases x <;> cases y <;> decide
section CM5
variable {G : jx_G} {d b nF nK sz nS nA nO : Nat} {la wi en pe cd lr fr tk lc db fc le x x2 : Int32} {gt lt t v key s0 t0 bf bd : Int64} {nm : Nat → Int64} {kd : Nat → sp_key} {fd : sp_fd} {fw : Nat → Nat → Int64} {sn ac oc : Nat → Int64} {M : jx_H} {Z : Option Value → jx_H → Nat → Prop}
theorem c_M_key (hd : 0 < d) (hN : mW M b la wi en pe cd lr fr gt lt tk lc db fc le nF fd fw nK nm kd nS sn nA ac nO oc) (k2 : x = 2 → ∀ M', mW M' b la wi en pe 0 lr fr gt lt tk lc db fc le nF fd fw nK nm kd nS sn nA ac nO oc → mFr b M M' → Z (some (.int (kf_b (sp_ix (fun j => sn j == key) nS).isSome))) M' sz) (kn : (¬ x < 0 ∧ x ≤ 2) → ¬ x = 2 → sp_ix (fun j => nm j == key) nK = none → ∀ M', mW M' b la wi en pe 0 lr fr gt lt tk lc db fc le nF fd fw nK nm kd nS sn nA ac nO oc → mFr b M M' → Z (some (.int 0)) M' sz)
    (k : ∀ j, (¬ x < 0 ∧ x ≤ 2) → ¬ x = 2 → sp_ix (fun j => nm j == key) nK = some j → ∀ M', mW M' b la wi en pe 0 lr fr gt lt tk lc db fc le nF fd fw nK nm kd nS sn nA ac nO oc → mFr b M M' → Z (some (.int (if x = 0 then nI (kd j).1 else (kd j).2.1))) M' sz) (kx : ¬ (¬ x < 0 ∧ x ≤ 2) → ∀ M', mW M' b la wi en pe 1 lr fr gt lt tk lc db fc le nF fd fw nK nm kd nS sn nA ac nO oc → mFr b M M' → Z (some (.int 0)) M' sz) : jx_Cr md_M_key G d [.ref b, .long key, .int x] M sz 0 0 Z := by
  refine jx_ent rfl (Nat.le_of_ble_eq_true rfl) (l := [some (.ref b), some (.long key), none, some (.int x), none]) (by simp [jx_le, jx_eas, Value.category]) (fun hlt => ?_)
  obtain ⟨mk, ki, st, nu, fa, fl, nn, si, wo, ti, va, so, hmk, hB, hO, hF, hK, hS5, hS⟩ := id hN
  obtain ⟨h1, h2, h3, h4, h5, h6, h7, h8, h9, h10, h11, h12, h13⟩ := id hO
  have hU : ∀ cd' : Int32, mW (jx_up M b (kf_M la wi en pe cd' nF b lr fr nK nS (kf_b (sp_wm gt)) mk lt nA nO tk lc db fc le)) b la wi en pe cd' lr fr gt lt tk lc db fc le nF fd fw nK nm kd nS sn nA ac nO oc := fun cd' => ⟨mk, ki, st, nu, fa, fl, nn, si, wo, ti, va, so, hmk, jx_up_s _ _ _, hO.to (fun q q1 q2 => jx_up_n _ _ (by omega)), hF, hK, hS5, hS⟩
  have hnK := hK.1
  have bad : ¬ (¬ x < 0 ∧ x ≤ 2) → jx_V md_M_key [] G (jx_rm d 0 0) (jx_Q1 G 0 0 Z) 10 [some (.ref b), some (.long key), none, some (.int x), none] [.ref b] M sz 0 0 := by
    intro hn
    refine jx_iconst (v := 1) d_M_key_10 (by decide) ?_
    refine jx_goto (tgt := 15) d_M_key_11 (by decide) ?_
    refine jx_putf d_M_key_15 pf_M_67 hB (Nat.le_of_ble_eq_true rfl) rfl rfl ?_
    refine jx_aload_n (i := 0) d_M_key_18 rfl rfl ?_
    refine jx_getf d_M_key_19 gf_M_67 (jx_up_s _ _ _) rfl ?_
    refine jx_if_le (tgt := 27) d_M_key_22 (by decide) (fun c22 => ?_) (fun c22 => ?_)
    · exact absurd c22 (by decide)
    · refine jx_iconst (v := 0) d_M_key_25 (by decide) ?_
      exact jx_iret d_M_key_26 rfl (by omega) (by omega) (kx hn _ (hU 1) (fun q hq => jx_up_n _ _ (by omega)))
  refine jx_aload_n (i := 0) d_M_key_0 rfl rfl ?_
  refine jx_iload_n (i := 3) d_M_key_1 rfl rfl ?_
  refine jx_if_lt (tgt := 10) d_M_key_2 (by decide) (fun c2 => ?_) (fun c2 => ?_)
  · exact bad (fun h => h.1 c2)
  · refine jx_iload_n (i := 3) d_M_key_5 rfl rfl ?_
    refine jx_iconst (v := 2) d_M_key_6 (by decide) ?_
    refine jx_icmp_le (tgt := 14) d_M_key_7 (by decide) (fun c7 => ?_) (fun c7 => ?_)
    · refine jx_iconst (v := 0) d_M_key_14 (by decide) ?_
      refine jx_putf d_M_key_15 pf_M_67 hB (Nat.le_of_ble_eq_true rfl) rfl rfl ?_
      refine jx_aload_n (i := 0) d_M_key_18 rfl rfl ?_
      refine jx_getf d_M_key_19 gf_M_67 (jx_up_s _ _ _) rfl ?_
      refine jx_if_le (tgt := 27) d_M_key_22 (by decide) (fun c22 => ?_) (fun c22 => ?_)
      · refine jx_aload_n (i := 0) d_M_key_27 rfl rfl ?_
        refine jx_lload_n (i := 1) d_M_key_28 rfl rfl ?_
        refine jx_callV1 d_M_key_29 mv_M_125 (jx_up_s _ _ _) rfl (jx_ok_rm (by omega) (Nat.le_of_ble_eq_true rfl)) (Nat.le_of_ble_eq_true rfl) (jx_rmc (by omega)) (jx_rms (by omega)) (c_M_keyOf (d := 0) (hU 0) ?_)
        dsimp only [Option.toList, List.cons_append, List.nil_append]
        refine jx_istore d_M_key_32 (Nat.le_of_ble_eq_true rfl) (jx_e5_4 (by trivial)) ?_
        refine jx_iload_n (i := 3) d_M_key_34 rfl rfl ?_
        refine jx_iconst (v := 2) d_M_key_35 (by decide) ?_
        refine jx_icmp_ne (tgt := 54) d_M_key_36 (by decide) (fun c36 => ?_) (fun c36 => ?_)
        · cases hj : sp_ix (fun j => nm j == key) nK with
          | none =>
            refine jx_iload d_M_key_54 rfl ?_
            refine jx_iconst (v := (-1)) d_M_key_56 (by decide) ?_
            refine jx_icmp_ne (tgt := 64) d_M_key_57 (by decide) (fun c57 => ?_) (fun c57 => ?_)
            · exact absurd kf_ix_none c57
            · refine jx_iconst (v := 0) d_M_key_60 (by decide) ?_
              refine jx_goto (tgt := 85) d_M_key_61 (by decide) ?_
              exact jx_iret d_M_key_85 rfl (by omega) (by omega) (kn ⟨c2, c7⟩ c36 hj _ (hU 0) (fun q hq => jx_up_n _ _ (by omega)))
          | some j =>
            have hjK := (sp_ix_lt hj).1
            obtain ⟨g1, g2, g3, g4, g5⟩ := hK.2.1 j hjK
            have hk := k j ⟨c2, c7⟩ c36 hj _ (hU 0) (fun q hq => jx_up_n _ _ (by omega))
            rw [kf_ix_some]
            refine jx_iload d_M_key_54 rfl ?_
            refine jx_iconst (v := (-1)) d_M_key_56 (by decide) ?_
            refine jx_icmp_ne (tgt := 64) d_M_key_57 (by decide) (fun c57 => ?_) (fun c57 => ?_)
            · refine jx_iload_n (i := 3) d_M_key_64 rfl rfl ?_
              refine jx_if_ne (tgt := 78) d_M_key_65 (by decide) (fun c65 => ?_) (fun c65 => ?_)
              · rw [if_neg c65] at hk
                refine jx_aload_n (i := 0) d_M_key_78 rfl rfl ?_
                refine jx_getf d_M_key_79 gf_M_32 (jx_up_s _ _ _) rfl ?_
                refine jx_iload d_M_key_82 rfl ?_
                refine jx_ialdj d_M_key_84 ((jx_up_n _ _ (by omega)).trans h8) rfl (by omega) (by omega) ?_
                exact jx_iret d_M_key_85 rfl (by omega) (by omega) (by rw [g4]; exact hk)
              · rw [if_pos c65] at hk
                refine jx_aload_n (i := 0) d_M_key_68 rfl rfl ?_
                refine jx_getf d_M_key_69 gf_M_29 (jx_up_s _ _ _) rfl ?_
                refine jx_iload d_M_key_72 rfl ?_
                refine jx_ialdj d_M_key_74 ((jx_up_n _ _ (by omega)).trans h7) rfl (by omega) (by omega) ?_
                refine jx_goto (tgt := 85) d_M_key_75 (by decide) ?_
                exact jx_iret d_M_key_85 rfl (by omega) (by omega) (by rw [g3]; exact hk)
            · exact absurd c57 (nI_m1 (by omega))
        · refine jx_aload_n (i := 0) d_M_key_39 rfl rfl ?_
          refine jx_lload_n (i := 1) d_M_key_40 rfl rfl ?_
          refine jx_callV1 d_M_key_41 mv_M_106 (jx_up_s _ _ _) rfl (jx_ok_rm (by omega) (Nat.le_of_ble_eq_true rfl)) (Nat.le_of_ble_eq_true rfl) (jx_rmc (by omega)) (jx_rms (by omega)) (c_M_stopOf (d := 0) (hU 0) ?_)
          dsimp only [Option.toList, List.cons_append, List.nil_append]
          have hk := k2 c36 _ (hU 0) (fun q hq => jx_up_n _ _ (by omega))
          cases hj : sp_ix (fun j => sn j == key) nS with
          | none =>
            rw [hj] at hk
            refine jx_iconst (v := (-1)) d_M_key_44 (by decide) ?_
            refine jx_icmp_eq (tgt := 52) d_M_key_45 (by decide) (fun c45 => ?_) (fun c45 => ?_)
            · refine jx_iconst (v := 0) d_M_key_52 (by decide) ?_
              exact jx_iret d_M_key_53 rfl (by omega) (by omega) hk
            · exact absurd kf_ix_none c45
          | some j =>
            have hjK := (sp_ix_lt hj).1
            rw [hj] at hk
            refine jx_iconst (v := (-1)) d_M_key_44 (by decide) ?_
            refine jx_icmp_eq (tgt := 52) d_M_key_45 (by decide) (fun c45 => ?_) (fun c45 => ?_)
            · exact absurd c45 (nI_m1 (by omega))
            · refine jx_iconst (v := 1) d_M_key_48 (by decide) ?_
              refine jx_goto (tgt := 53) d_M_key_49 (by decide) ?_
              exact jx_iret d_M_key_53 rfl (by omega) (by omega) hk
      · exact absurd (by decide) c22
    · exact bad (fun h => c7 h.2)
theorem c_M_rowOf (hd : 0 < d) (hN : mW M b la wi en pe cd lr fr gt lt tk lc db fc le nF fd fw nK nm kd nS sn nA ac nO oc)
    (k : ∀ j i, sp_ix (fun j => nm j == key) nK = some j → i < (kd j).1 → x = nI i → (¬ x2 < 0 ∧ x2 ≤ 1) → ∀ M', mW M' b la wi en pe 0 lr fr gt lt tk lc db fc le nF fd fw nK nm kd nS sn nA ac nO oc → mFr b M M' → Z (some (.long (if x2 = 0 then (kd j).2.2.1 i else (kd j).2.2.2.1 i))) M' sz) (kx : ¬ (∃ j i, sp_ix (fun j => nm j == key) nK = some j ∧ i < (kd j).1 ∧ x = nI i ∧ (¬ x2 < 0 ∧ x2 ≤ 1)) → ∀ M', mW M' b la wi en pe 1 lr fr gt lt tk lc db fc le nF fd fw nK nm kd nS sn nA ac nO oc → mFr b M M' → Z (some (.long 0)) M' sz) : jx_Cr md_M_rowOf G d [.ref b, .long key, .int x, .int x2] M sz 0 0 Z := by
  refine jx_ent rfl (Nat.le_of_ble_eq_true rfl) (l := [some (.ref b), some (.long key), none, some (.int x), some (.int x2), none]) (by simp [jx_le, jx_eas, Value.category]) (fun hlt => ?_)
  obtain ⟨mk, ki, st, nu, fa, fl, nn, si, wo, ti, va, so, hmk, hB, hO, hF, hK, hS5, hS⟩ := id hN
  obtain ⟨h1, h2, h3, h4, h5, h6, h7, h8, h9, h10, h11, h12, h13⟩ := id hO
  have hU : ∀ cd' : Int32, mW (jx_up M b (kf_M la wi en pe cd' nF b lr fr nK nS (kf_b (sp_wm gt)) mk lt nA nO tk lc db fc le)) b la wi en pe cd' lr fr gt lt tk lc db fc le nF fd fw nK nm kd nS sn nA ac nO oc := fun cd' => ⟨mk, ki, st, nu, fa, fl, nn, si, wo, ti, va, so, hmk, jx_up_s _ _ _, hO.to (fun q q1 q2 => jx_up_n _ _ (by omega)), hF, hK, hS5, hS⟩
  have hnK := hK.1
  have bad : ∀ y : Int32, ¬ (∃ j i, sp_ix (fun j => nm j == key) nK = some j ∧ i < (kd j).1 ∧ x = nI i ∧ (¬ x2 < 0 ∧ x2 ≤ 1)) → jx_V md_M_rowOf [] G (jx_rm d 0 0) (jx_Q1 G 0 0 Z) 40 [some (.ref b), some (.long key), none, some (.int x), some (.int x2), some (.int y)] [.ref b] M sz 0 0 := by
    intro y hn
    refine jx_iconst (v := 1) d_M_rowOf_40 (by decide) ?_
    refine jx_goto (tgt := 45) d_M_rowOf_41 (by decide) ?_
    refine jx_putf d_M_rowOf_45 pf_M_67 hB (Nat.le_of_ble_eq_true rfl) rfl rfl ?_
    refine jx_aload_n (i := 0) d_M_rowOf_48 rfl rfl ?_
    refine jx_getf d_M_rowOf_49 gf_M_67 (jx_up_s _ _ _) rfl ?_
    refine jx_if_le (tgt := 59) d_M_rowOf_52 (by decide) (fun c52 => ?_) (fun c52 => ?_)
    · exact absurd c52 (by decide)
    · refine jx_lconst (v := 0) d_M_rowOf_55 (by decide) ?_
      refine jx_goto (tgt := 91) d_M_rowOf_56 (by decide) ?_
      exact jx_lret d_M_rowOf_91 rfl (by omega) (by omega) (kx hn _ (hU 1) (fun q hq => jx_up_n _ _ (by omega)))
  refine jx_aload_n (i := 0) d_M_rowOf_0 rfl rfl ?_
  refine jx_lload_n (i := 1) d_M_rowOf_1 rfl rfl ?_
  refine jx_callV1 d_M_rowOf_2 mv_M_125 hB rfl (jx_ok_rm (by omega) (Nat.le_of_ble_eq_true rfl)) (Nat.le_of_ble_eq_true rfl) (jx_rmc (by omega)) (jx_rms (by omega)) (c_M_keyOf (d := 0) hN ?_)
  dsimp only [Option.toList, List.cons_append, List.nil_append]
  cases hj : sp_ix (fun j => nm j == key) nK with
  | none =>
    refine jx_istore d_M_rowOf_5 (Nat.le_of_ble_eq_true rfl) (jx_e6_5 (by trivial)) ?_
    refine jx_aload_n (i := 0) d_M_rowOf_7 rfl rfl ?_
    refine jx_iload d_M_rowOf_8 rfl ?_
    refine jx_iconst (v := (-1)) d_M_rowOf_10 (by decide) ?_
    refine jx_icmp_eq (tgt := 40) d_M_rowOf_11 (by decide) (fun c11 => ?_) (fun c11 => ?_)
    · exact bad _ (by rintro ⟨j, i, h1, -⟩; rw [hj] at h1; cases h1)
    · exact absurd kf_ix_none c11
  | some j =>
    have hjK := (sp_ix_lt hj).1
    obtain ⟨g1, g2, g3, g4, g5⟩ := hK.2.1 j hjK
    rw [kf_ix_some]
    refine jx_istore d_M_rowOf_5 (Nat.le_of_ble_eq_true rfl) (jx_e6_5 (by trivial)) ?_
    refine jx_aload_n (i := 0) d_M_rowOf_7 rfl rfl ?_
    refine jx_iload d_M_rowOf_8 rfl ?_
    refine jx_iconst (v := (-1)) d_M_rowOf_10 (by decide) ?_
    refine jx_icmp_eq (tgt := 40) d_M_rowOf_11 (by decide) (fun c11 => ?_) (fun c11 => ?_)
    · exact absurd c11 (nI_m1 (by omega))
    · refine jx_iload_n (i := 3) d_M_rowOf_14 rfl rfl ?_
      refine jx_if_lt (tgt := 40) d_M_rowOf_15 (by decide) (fun c15 => ?_) (fun c15 => ?_)
      · exact bad _ (by rintro ⟨j', i, h1, h2, h3, -⟩; rw [hj] at h1; cases h1; rw [h3] at c15; exact nI_pos (n := i) (by omega) c15)
      · obtain ⟨i0, hi0, hxi⟩ := nI_of c15
        subst hxi
        refine jx_iload_n (i := 3) d_M_rowOf_18 rfl rfl ?_
        refine jx_aload_n (i := 0) d_M_rowOf_19 rfl rfl ?_
        refine jx_getf d_M_rowOf_20 gf_M_29 hB rfl ?_
        refine jx_iload d_M_rowOf_23 rfl ?_
        refine jx_ialdj d_M_rowOf_25 h7 rfl (by omega) (by omega) ?_
        refine jx_icmp_ge (tgt := 40) d_M_rowOf_26 (by decide) (fun c26 => ?_) (fun c26 => ?_)
        · rw [g3] at c26
          have hge := (nI_leI (by omega) (by omega)).mp c26
          exact bad _ (by rintro ⟨j', i, h1, h2, h3, -⟩; rw [hj] at h1; cases h1; rw [(nI_eq (by omega) (by omega)).mp h3] at hge; omega)
        · rw [g3] at c26
          have hi : i0 < (kd j).1 := by
            rcases Nat.lt_or_ge i0 (kd j).1 with h | h
            · exact h
            · exact absurd ((nI_leI (by omega) (by omega)).mpr h) c26
          refine jx_iload d_M_rowOf_29 rfl ?_
          refine jx_if_lt (tgt := 40) d_M_rowOf_31 (by decide) (fun c31 => ?_) (fun c31 => ?_)
          · exact bad _ (by rintro ⟨j', i, h1, h2, h3, h4⟩; exact h4.1 c31)
          · refine jx_iload d_M_rowOf_34 rfl ?_
            refine jx_iconst (v := 1) d_M_rowOf_36 (by decide) ?_
            refine jx_icmp_le (tgt := 44) d_M_rowOf_37 (by decide) (fun c37 => ?_) (fun c37 => ?_)
            · refine jx_iconst (v := 0) d_M_rowOf_44 (by decide) ?_
              refine jx_putf d_M_rowOf_45 pf_M_67 hB (Nat.le_of_ble_eq_true rfl) rfl rfl ?_
              refine jx_aload_n (i := 0) d_M_rowOf_48 rfl rfl ?_
              refine jx_getf d_M_rowOf_49 gf_M_67 (jx_up_s _ _ _) rfl ?_
              refine jx_if_le (tgt := 59) d_M_rowOf_52 (by decide) (fun c52 => ?_) (fun c52 => ?_)
              · have hk := k j i0 hj hi rfl ⟨c31, c37⟩ _ (hU 0) (fun q hq => jx_up_n _ _ (by omega))
                refine jx_iload d_M_rowOf_59 rfl ?_
                refine jx_if_ne (tgt := 79) d_M_rowOf_61 (by decide) (fun c61 => ?_) (fun c61 => ?_)
                · rw [if_neg c61, ← (g5 i0 hi).2] at hk
                  refine jx_aload_n (i := 0) d_M_rowOf_79 rfl rfl ?_
                  refine jx_getf d_M_rowOf_80 gf_M_38 (jx_up_s _ _ _) rfl ?_
                  refine jx_bipush (v := 62) d_M_rowOf_83 (by decide) ?_
                  refine jx_iload d_M_rowOf_85 rfl ?_
                  refine jx_imul d_M_rowOf_87 ?_
                  refine jx_iload_n (i := 3) d_M_rowOf_88 rfl rfl ?_
                  refine jx_iadd d_M_rowOf_89 ?_
                  refine jx_laldj d_M_rowOf_90 ((jx_up_n _ _ (by omega)).trans h10) (e62 _ _) (by omega) (by omega) ?_
                  exact jx_lret d_M_rowOf_91 rfl (by omega) (by omega) hk
                · rw [if_pos c61, ← (g5 i0 hi).1] at hk
                  refine jx_aload_n (i := 0) d_M_rowOf_64 rfl rfl ?_
                  refine jx_getf d_M_rowOf_65 gf_M_35 (jx_up_s _ _ _) rfl ?_
                  refine jx_bipush (v := 62) d_M_rowOf_68 (by decide) ?_
                  refine jx_iload d_M_rowOf_70 rfl ?_
                  refine jx_imul d_M_rowOf_72 ?_
                  refine jx_iload_n (i := 3) d_M_rowOf_73 rfl rfl ?_
                  refine jx_iadd d_M_rowOf_74 ?_
                  refine jx_laldj d_M_rowOf_75 ((jx_up_n _ _ (by omega)).trans h9) (e62 _ _) (by omega) (by omega) ?_
                  refine jx_goto (tgt := 91) d_M_rowOf_76 (by decide) ?_
                  exact jx_lret d_M_rowOf_91 rfl (by omega) (by omega) hk
              · exact absurd (by decide) c52
            · exact bad _ (by rintro ⟨j', i, h1, h2, h3, h4⟩; exact c37 h4.2)
theorem c_M_aside (hnA : nA < 2 ^ 31) (hN : mW M b la wi en pe cd lr fr gt lt tk lc db fc le nF fd fw nK nm kd nS sn nA ac nO oc)
    (k : ∀ i j : Nat, i < nA → i < 100 → j < 4 → x = nI i → x2 = nI j → ∀ M', mW M' b la wi en pe 0 lr fr gt lt tk lc db fc le nF fd fw nK nm kd nS sn nA ac nO oc → mFr b M M' → Z (some (.long (ac (i * 4 + j)))) M' sz) (kx : ¬ ((0 ≤ x.toInt ∧ x.toInt < nA ∧ x.toInt < 100) ∧ 0 ≤ x2.toInt ∧ x2.toInt < 4) → ∀ M', mW M' b la wi en pe 1 lr fr gt lt tk lc db fc le nF fd fw nK nm kd nS sn nA ac nO oc → mFr b M M' → Z (some (.long 0)) M' sz) : jx_Cr md_M_aside G d [.ref b, .int x, .int x2] M sz 0 0 Z := by
  refine jx_ent rfl (Nat.le_of_ble_eq_true rfl) (l := [some (.ref b), some (.int x), some (.int x2)]) (by simp [jx_le, jx_eas, Value.category]) (fun hlt => ?_)
  obtain ⟨mk, ki, st, nu, fa, fl, nn, si, wo, ti, va, so, hmk, hB, hO, hF, hK, hS5, hS⟩ := id hN
  obtain ⟨h1, h2, h3, h4, h5, h6, h7, h8, h9, h10, h11, h12, h13⟩ := id hO
  have hU : ∀ cd' : Int32, mW (jx_up M b (kf_M la wi en pe cd' nF b lr fr nK nS (kf_b (sp_wm gt)) mk lt nA nO tk lc db fc le)) b la wi en pe cd' lr fr gt lt tk lc db fc le nF fd fw nK nm kd nS sn nA ac nO oc := fun cd' => ⟨mk, ki, st, nu, fa, fl, nn, si, wo, ti, va, so, hmk, jx_up_s _ _ _, hO.to (fun q q1 q2 => jx_up_n _ _ (by omega)), hF, hK, hS5, hS⟩
  have e0 : (0 : Int32).toInt = 0 := by decide
  have eA := nI_toInt (n := nA) hnA
  have e100 : (100 : Int32).toInt = 100 := by decide
  have e3 : (3 : Int32).toInt = 3 := by decide
  have bad : ¬ ((0 ≤ x.toInt ∧ x.toInt < nA ∧ x.toInt < 100) ∧ 0 ≤ x2.toInt ∧ x2.toInt < 4) → jx_V md_M_aside [] G (jx_rm d 0 0) (jx_Q1 G 0 0 Z) 28 [some (.ref b), some (.int x), some (.int x2)] [.ref b] M sz 0 0 := by
    intro hn
    refine jx_iconst (v := 1) d_M_aside_28 (by decide) ?_
    refine jx_goto (tgt := 33) d_M_aside_29 (by decide) ?_
    refine jx_putf d_M_aside_33 pf_M_67 hB (Nat.le_of_ble_eq_true rfl) rfl rfl ?_
    refine jx_aload_n (i := 0) d_M_aside_36 rfl rfl ?_
    refine jx_getf d_M_aside_37 gf_M_67 (jx_up_s _ _ _) rfl ?_
    refine jx_if_le (tgt := 47) d_M_aside_40 (by decide) (fun c40 => ?_) (fun c40 => ?_)
    · exact absurd c40 (by decide)
    · refine jx_lconst (v := 0) d_M_aside_43 (by decide) ?_
      refine jx_goto (tgt := 57) d_M_aside_44 (by decide) ?_
      exact jx_lret d_M_aside_57 rfl (by omega) (by omega) (kx hn _ (hU 1) (fun q hq => jx_up_n _ _ (by omega)))
  refine jx_aload_n (i := 0) d_M_aside_0 rfl rfl ?_
  refine jx_iload_n (i := 1) d_M_aside_1 rfl rfl ?_
  refine jx_if_lt (tgt := 28) d_M_aside_2 (by decide) (fun c2 => ?_) (fun c2 => ?_)
  · exact bad (by rw [Int32.lt_iff_toInt_lt, e0] at c2; omega)
  · rw [Int32.lt_iff_toInt_lt, e0] at c2
    refine jx_iload_n (i := 1) d_M_aside_5 rfl rfl ?_
    refine jx_aload_n (i := 0) d_M_aside_6 rfl rfl ?_
    refine jx_getf d_M_aside_7 gf_M_101 hB rfl ?_
    refine jx_icmp_ge (tgt := 28) d_M_aside_10 (by decide) (fun c10 => ?_) (fun c10 => ?_)
    · exact bad (by rw [Int32.le_iff_toInt_le, eA] at c10; omega)
    · rw [Int32.le_iff_toInt_le, eA] at c10
      refine jx_iload_n (i := 1) d_M_aside_13 rfl rfl ?_
      refine jx_bipush (v := 100) d_M_aside_14 (by decide) ?_
      refine jx_icmp_ge (tgt := 28) d_M_aside_16 (by decide) (fun c16 => ?_) (fun c16 => ?_)
      · exact bad (by rw [Int32.le_iff_toInt_le, e100] at c16; omega)
      · rw [Int32.le_iff_toInt_le, e100] at c16
        refine jx_iload_n (i := 2) d_M_aside_19 rfl rfl ?_
        refine jx_if_lt (tgt := 28) d_M_aside_20 (by decide) (fun c20 => ?_) (fun c20 => ?_)
        · exact bad (by rw [Int32.lt_iff_toInt_lt, e0] at c20; omega)
        · rw [Int32.lt_iff_toInt_lt, e0] at c20
          refine jx_iload_n (i := 2) d_M_aside_23 rfl rfl ?_
          refine jx_iconst (v := 3) d_M_aside_24 (by decide) ?_
          refine jx_icmp_le (tgt := 32) d_M_aside_25 (by decide) (fun c25 => ?_) (fun c25 => ?_)
          · rw [Int32.le_iff_toInt_le, e3] at c25
            refine jx_iconst (v := 0) d_M_aside_32 (by decide) ?_
            refine jx_putf d_M_aside_33 pf_M_67 hB (Nat.le_of_ble_eq_true rfl) rfl rfl ?_
            refine jx_aload_n (i := 0) d_M_aside_36 rfl rfl ?_
            refine jx_getf d_M_aside_37 gf_M_67 (jx_up_s _ _ _) rfl ?_
            refine jx_if_le (tgt := 47) d_M_aside_40 (by decide) (fun c40 => ?_) (fun c40 => ?_)
            · obtain ⟨i, hi, hxi⟩ := nI_ofI (x := x) (n := 100) (by omega)
              obtain ⟨j, hj, hxj⟩ := nI_ofI (x := x2) (n := 4) (by omega)
              have hiA : i < nA := by
                rw [hxi, nI_toInt (by omega)] at c10
                omega
              have hk := k i j hiA hi hj hxi hxj _ (hU 0) (fun q hq => jx_up_n _ _ (by omega))
              subst hxi hxj
              rw [show i * 4 + j = 4 * i + j by omega] at hk
              refine jx_aload_n (i := 0) d_M_aside_47 rfl rfl ?_
              refine jx_getf d_M_aside_48 gf_M_44 (jx_up_s _ _ _) rfl ?_
              refine jx_iconst (v := 4) d_M_aside_51 (by decide) ?_
              refine jx_iload_n (i := 1) d_M_aside_52 rfl rfl ?_
              refine jx_imul d_M_aside_53 ?_
              refine jx_iload_n (i := 2) d_M_aside_54 rfl rfl ?_
              refine jx_iadd d_M_aside_55 ?_
              refine jx_laldj d_M_aside_56 ((jx_up_n _ _ (by omega)).trans h12) (e4 _ _) (by omega) (by omega) ?_
              exact jx_lret d_M_aside_57 rfl (by omega) (by omega) hk
            · exact absurd (by decide) c40
          · exact bad (by rw [Int32.le_iff_toInt_le, e3] at c25; omega)
theorem c_M_output (hnO : nO < 2 ^ 31) (hN : mW M b la wi en pe cd lr fr gt lt tk lc db fc le nF fd fw nK nm kd nS sn nA ac nO oc)
    (k : ∀ i j : Nat, i < nO → i < 300 → j < 2 + nF → x = nI i → x2 = nI j → ∀ M', mW M' b la wi en pe 0 lr fr gt lt tk lc db fc le nF fd fw nK nm kd nS sn nA ac nO oc → mFr b M M' → Z (some (.long (oc (i * 8 + j)))) M' sz) (kx : ¬ ((0 ≤ x.toInt ∧ x.toInt < nO ∧ x.toInt < 300) ∧ 0 ≤ x2.toInt ∧ x2.toInt < (2 + nF : Nat)) → ∀ M', mW M' b la wi en pe 1 lr fr gt lt tk lc db fc le nF fd fw nK nm kd nS sn nA ac nO oc → mFr b M M' → Z (some (.long 0)) M' sz) : jx_Cr md_M_output G d [.ref b, .int x, .int x2] M sz 0 0 Z := by
  refine jx_ent rfl (Nat.le_of_ble_eq_true rfl) (l := [some (.ref b), some (.int x), some (.int x2)]) (by simp [jx_le, jx_eas, Value.category]) (fun hlt => ?_)
  obtain ⟨mk, ki, st, nu, fa, fl, nn, si, wo, ti, va, so, hmk, hB, hO, hF, hK, hS5, hS⟩ := id hN
  obtain ⟨h1, h2, h3, h4, h5, h6, h7, h8, h9, h10, h11, h12, h13⟩ := id hO
  have hU : ∀ cd' : Int32, mW (jx_up M b (kf_M la wi en pe cd' nF b lr fr nK nS (kf_b (sp_wm gt)) mk lt nA nO tk lc db fc le)) b la wi en pe cd' lr fr gt lt tk lc db fc le nF fd fw nK nm kd nS sn nA ac nO oc := fun cd' => ⟨mk, ki, st, nu, fa, fl, nn, si, wo, ti, va, so, hmk, jx_up_s _ _ _, hO.to (fun q q1 q2 => jx_up_n _ _ (by omega)), hF, hK, hS5, hS⟩
  have hnF := hF.1
  have e0 : (0 : Int32).toInt = 0 := by decide
  have eA := nI_toInt (n := nO) hnO
  have e100 : (300 : Int32).toInt = 300 := by decide
  have e3 : ((1 : Int32) + nI nF).toInt = (1 + nF : Nat) := by
    rw [show (1 : Int32) = nI 1 from rfl, nI_add, nI_toInt (by omega)]
  have bad : ¬ ((0 ≤ x.toInt ∧ x.toInt < nO ∧ x.toInt < 300) ∧ 0 ≤ x2.toInt ∧ x2.toInt < (2 + nF : Nat)) → jx_V md_M_output [] G (jx_rm d 0 0) (jx_Q1 G 0 0 Z) 34 [some (.ref b), some (.int x), some (.int x2)] [.ref b] M sz 0 0 := by
    intro hn
    refine jx_iconst (v := 1) d_M_output_34 (by decide) ?_
    refine jx_goto (tgt := 39) d_M_output_35 (by decide) ?_
    refine jx_putf d_M_output_39 pf_M_67 hB (Nat.le_of_ble_eq_true rfl) rfl rfl ?_
    refine jx_aload_n (i := 0) d_M_output_42 rfl rfl ?_
    refine jx_getf d_M_output_43 gf_M_67 (jx_up_s _ _ _) rfl ?_
    refine jx_if_le (tgt := 53) d_M_output_46 (by decide) (fun c46 => ?_) (fun c46 => ?_)
    · exact absurd c46 (by decide)
    · refine jx_lconst (v := 0) d_M_output_49 (by decide) ?_
      refine jx_goto (tgt := 64) d_M_output_50 (by decide) ?_
      exact jx_lret d_M_output_64 rfl (by omega) (by omega) (kx hn _ (hU 1) (fun q hq => jx_up_n _ _ (by omega)))
  refine jx_aload_n (i := 0) d_M_output_0 rfl rfl ?_
  refine jx_iload_n (i := 1) d_M_output_1 rfl rfl ?_
  refine jx_if_lt (tgt := 34) d_M_output_2 (by decide) (fun c2 => ?_) (fun c2 => ?_)
  · exact bad (by rw [Int32.lt_iff_toInt_lt, e0] at c2; omega)
  · rw [Int32.lt_iff_toInt_lt, e0] at c2
    refine jx_iload_n (i := 1) d_M_output_5 rfl rfl ?_
    refine jx_aload_n (i := 0) d_M_output_6 rfl rfl ?_
    refine jx_getf d_M_output_7 gf_M_170 hB rfl ?_
    refine jx_icmp_ge (tgt := 34) d_M_output_10 (by decide) (fun c10 => ?_) (fun c10 => ?_)
    · exact bad (by rw [Int32.le_iff_toInt_le, eA] at c10; omega)
    · rw [Int32.le_iff_toInt_le, eA] at c10
      refine jx_iload_n (i := 1) d_M_output_13 rfl rfl ?_
      refine jx_sipush (v := 300) d_M_output_14 (by decide) ?_
      refine jx_icmp_ge (tgt := 34) d_M_output_17 (by decide) (fun c17 => ?_) (fun c17 => ?_)
      · exact bad (by rw [Int32.le_iff_toInt_le, e100] at c17; omega)
      · rw [Int32.le_iff_toInt_le, e100] at c17
        refine jx_iload_n (i := 2) d_M_output_20 rfl rfl ?_
        refine jx_if_lt (tgt := 34) d_M_output_21 (by decide) (fun c21 => ?_) (fun c21 => ?_)
        · exact bad (by rw [Int32.lt_iff_toInt_lt, e0] at c21; omega)
        · rw [Int32.lt_iff_toInt_lt, e0] at c21
          refine jx_iload_n (i := 2) d_M_output_24 rfl rfl ?_
          refine jx_iconst (v := 1) d_M_output_25 (by decide) ?_
          refine jx_aload_n (i := 0) d_M_output_26 rfl rfl ?_
          refine jx_getf d_M_output_27 gf_M_71 hB rfl ?_
          refine jx_iadd d_M_output_30 ?_
          refine jx_icmp_le (tgt := 38) d_M_output_31 (by decide) (fun c31 => ?_) (fun c31 => ?_)
          · rw [Int32.le_iff_toInt_le, e3] at c31
            refine jx_iconst (v := 0) d_M_output_38 (by decide) ?_
            refine jx_putf d_M_output_39 pf_M_67 hB (Nat.le_of_ble_eq_true rfl) rfl rfl ?_
            refine jx_aload_n (i := 0) d_M_output_42 rfl rfl ?_
            refine jx_getf d_M_output_43 gf_M_67 (jx_up_s _ _ _) rfl ?_
            refine jx_if_le (tgt := 53) d_M_output_46 (by decide) (fun c46 => ?_) (fun c46 => ?_)
            · obtain ⟨i, hi, hxi⟩ := nI_ofI (x := x) (n := 300) (by omega)
              obtain ⟨j, hj, hxj⟩ := nI_ofI (x := x2) (n := 2 + nF) (by omega)
              have hiA : i < nO := by
                rw [hxi, nI_toInt (by omega)] at c10
                omega
              have hk := k i j hiA hi hj hxi hxj _ (hU 0) (fun q hq => jx_up_n _ _ (by omega))
              subst hxi hxj
              rw [show i * 8 + j = 8 * i + j by omega] at hk
              refine jx_aload_n (i := 0) d_M_output_53 rfl rfl ?_
              refine jx_getf d_M_output_54 gf_M_47 (jx_up_s _ _ _) rfl ?_
              refine jx_bipush (v := 8) d_M_output_57 (by decide) ?_
              refine jx_iload_n (i := 1) d_M_output_59 rfl rfl ?_
              refine jx_imul d_M_output_60 ?_
              refine jx_iload_n (i := 2) d_M_output_61 rfl rfl ?_
              refine jx_iadd d_M_output_62 ?_
              refine jx_laldj d_M_output_63 ((jx_up_n _ _ (by omega)).trans h13) (e8 _ _) (by omega) (by omega) ?_
              exact jx_lret d_M_output_64 rfl (by omega) (by omega) hk
            · exact absurd (by decide) c46
          · exact bad (by rw [Int32.le_iff_toInt_le, e3] at c31; omega)
end CM5
