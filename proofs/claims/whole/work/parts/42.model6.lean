/-! PART 42: the reference: joined, fold, failsAt, rule, resume, putAside, isDouble -/
theorem sp_abs_eq {x n : Nat} (hx : x ≤ 2 ^ 40) (hn : n ≤ 2 ^ 40) : sp_abs (lN x - lN n) = if lN n - lN x < 0 then -(lN n - lN x) else lN n - lN x := by
  have e1 : (lN x - lN n).toInt = (x : Int) - n := by
    rw [Int64.toInt_sub, pk_lT (by omega), pk_lT (by omega)]
    exact Int.bmod_eq_of_le (by omega) (by omega)
  have e2 : (lN n - lN x).toInt = (n : Int) - x := by
    rw [Int64.toInt_sub, pk_lT (by omega), pk_lT (by omega)]
    exact Int.bmod_eq_of_le (by omega) (by omega)
  have e3 : (-(lN n - lN x)).toInt = (x : Int) - n := by
    rw [Int64.toInt_neg, e2, Int.bmod_eq_of_le (by omega) (by omega)]
    omega
  have e4 : (-(lN x - lN n)).toInt = (n : Int) - x := by
    rw [Int64.toInt_neg, e1, Int.bmod_eq_of_le (by omega) (by omega)]
    omega
  have e0 : (0 : Int64).toInt = 0 := by decide
  apply Int64.toInt_inj.mp
  unfold sp_abs
  simp only [Int64.lt_iff_toInt_lt, e1, e2, e0]
  split <;> split <;> simp only [e1, e2, e3, e4] <;> omega
theorem upd_s (f : Nat → Int32) (i : Nat) (v : Int32) : upd f i v i = v := by simp [upd]
theorem upd_n (f : Nat → Int32) {i j : Nat} (v : Int32) (h : j ≠ i) : upd f i v j = f j := by simp [upd, h]
theorem updL_s (f : Nat → Int64) (i : Nat) (v : Int64) : vp_updL f i v i = v := by simp [vp_updL]
theorem updL_n (f : Nat → Int64) {i j : Nat} (v : Int64) (h : j ≠ i) : vp_updL f i v j = f j := by simp [vp_updL, h]
section CM6
variable {G : jx_G} {d b nF nK sz nS nA nO : Nat} {la wi en pe cd lr fr tk lc db fc le x x2 cs : Int32} {gt lt t v key s0 p0 : Int64} {nm : Nat → Int64} {kd : Nat → sp_key} {fd : sp_fd} {fw : Nat → Nat → Int64} {sn ac oc : Nat → Int64} {M : jx_H} {Z : Option Value → jx_H → Nat → Prop}
theorem c_M_rule (hN : mW M b la wi en pe cd lr fr gt lt tk lc db fc le nF fd fw nK nm kd nS sn nA ac nO oc)
    (k0 : x = 0 → (¬ x2 < 0 ∧ x2 ≤ 2) → ∀ M', mW M' b la wi en pe 0 x2 fr gt lt tk lc db fc le nF fd fw nK nm kd nS sn nA ac nO oc → mFr b M M' → Z (some (.int lr)) M' sz)
    (k1 : x = 1 → (¬ x2 < 0 ∧ x2 ≤ 2) → ∀ M', mW M' b la wi en pe 0 lr x2 gt lt tk lc db fc le nF fd fw nK nm kd nS sn nA ac nO oc → mFr b M M' → Z (some (.int fr)) M' sz)
    (kx : ¬ ((¬ x < 0 ∧ x ≤ 1) ∧ ¬ x2 < 0 ∧ x2 ≤ 2) → ∀ M', mW M' b la wi en pe 1 lr fr gt lt tk lc db fc le nF fd fw nK nm kd nS sn nA ac nO oc → mFr b M M' → Z (some (.int 0)) M' sz) : jx_Cr md_M_rule G d [.ref b, .int x, .int x2] M sz 0 0 Z := by
  refine jx_ent rfl (Nat.le_of_ble_eq_true rfl) (l := [some (.ref b), some (.int x), some (.int x2), none]) (by simp [jx_le, jx_eas, Value.category]) (fun hlt => ?_)
  obtain ⟨mk, ki, st, nu, fa, fl, nn, si, wo, ti, va, so, hmk, hB, hO, hF, hK, hS5, hS⟩ := id hN
  have hU : ∀ cd' : Int32, mW (jx_up M b (kf_M la wi en pe cd' nF b lr fr nK nS (kf_b (sp_wm gt)) mk lt nA nO tk lc db fc le)) b la wi en pe cd' lr fr gt lt tk lc db fc le nF fd fw nK nm kd nS sn nA ac nO oc := fun cd' => ⟨mk, ki, st, nu, fa, fl, nn, si, wo, ti, va, so, hmk, jx_up_s _ _ _, hO.to (fun q q1 q2 => jx_up_n _ _ (by omega)), hF, hK, hS5, hS⟩
  have bad : ¬ ((¬ x < 0 ∧ x ≤ 1) ∧ ¬ x2 < 0 ∧ x2 ≤ 2) → jx_V md_M_rule [] G (jx_rm d 0 0) (jx_Q1 G 0 0 Z) 19 [some (.ref b), some (.int x), some (.int x2), none] [.ref b] M sz 0 0 := by
    intro hn
    refine jx_iconst (v := 1) d_M_rule_19 (by decide) ?_
    refine jx_goto (tgt := 24) d_M_rule_20 (by decide) ?_
    refine jx_putf d_M_rule_24 pf_M_67 hB (Nat.le_of_ble_eq_true rfl) rfl rfl ?_
    refine jx_aload_n (i := 0) d_M_rule_27 rfl rfl ?_
    refine jx_getf d_M_rule_28 gf_M_67 (jx_up_s _ _ _) rfl ?_
    refine jx_if_le (tgt := 36) d_M_rule_31 (by decide) (fun c31 => ?_) (fun c31 => ?_)
    · exact absurd c31 (by decide)
    · refine jx_iconst (v := 0) d_M_rule_34 (by decide) ?_
      exact jx_iret d_M_rule_35 rfl (by omega) (by omega) (kx hn _ (hU 1) (fun q hq => jx_up_n _ _ (by omega)))
  refine jx_aload_n (i := 0) d_M_rule_0 rfl rfl ?_
  refine jx_iload_n (i := 1) d_M_rule_1 rfl rfl ?_
  refine jx_if_lt (tgt := 19) d_M_rule_2 (by decide) (fun c2 => ?_) (fun c2 => ?_)
  · exact bad (fun h => h.1.1 c2)
  · refine jx_iload_n (i := 1) d_M_rule_5 rfl rfl ?_
    refine jx_iconst (v := 1) d_M_rule_6 (by decide) ?_
    refine jx_icmp_gt (tgt := 19) d_M_rule_7 (by decide) (fun c7 => ?_) (fun c7 => ?_)
    · exact bad (fun h => by rw [Int32.lt_iff_toInt_lt] at c7; have := h.1.2; rw [Int32.le_iff_toInt_le] at this; omega)
    · refine jx_iload_n (i := 2) d_M_rule_10 rfl rfl ?_
      refine jx_if_lt (tgt := 19) d_M_rule_11 (by decide) (fun c11 => ?_) (fun c11 => ?_)
      · exact bad (fun h => h.2.1 c11)
      · refine jx_iload_n (i := 2) d_M_rule_14 rfl rfl ?_
        refine jx_iconst (v := 2) d_M_rule_15 (by decide) ?_
        refine jx_icmp_le (tgt := 23) d_M_rule_16 (by decide) (fun c16 => ?_) (fun c16 => ?_)
        · have hx1 : x ≤ 1 := by rw [Int32.lt_iff_toInt_lt] at c7; rw [Int32.le_iff_toInt_le]; omega
          refine jx_iconst (v := 0) d_M_rule_23 (by decide) ?_
          refine jx_putf d_M_rule_24 pf_M_67 hB (Nat.le_of_ble_eq_true rfl) rfl rfl ?_
          refine jx_aload_n (i := 0) d_M_rule_27 rfl rfl ?_
          refine jx_getf d_M_rule_28 gf_M_67 (jx_up_s _ _ _) rfl ?_
          refine jx_if_le (tgt := 36) d_M_rule_31 (by decide) (fun c31 => ?_) (fun c31 => ?_)
          · refine jx_iload_n (i := 1) d_M_rule_36 rfl rfl ?_
            refine jx_if_ne (tgt := 47) d_M_rule_37 (by decide) (fun c37 => ?_) (fun c37 => ?_)
            · refine jx_aload_n (i := 0) d_M_rule_47 rfl rfl ?_
              refine jx_getf d_M_rule_48 gf_M_94 (jx_up_s _ _ _) rfl ?_
              refine jx_istore_n (i := 3) d_M_rule_51 rfl (Nat.le_of_ble_eq_true rfl) (jx_e4_3 (by trivial)) ?_
              refine jx_iload_n (i := 1) d_M_rule_52 rfl rfl ?_
              refine jx_if_ne (tgt := 64) d_M_rule_53 (by decide) (fun c53 => ?_) (fun c53 => ?_)
              · have hx : x = 1 := by
                  obtain ⟨j, hj, hx⟩ := nI_of2 (M := 1) (n := 1) (by decide) c2 hx1
                  match j, hj, hx with
                  | 0, _, hx => exact absurd hx c37
                  | 1, _, hx => exact hx
                refine jx_aload_n (i := 0) d_M_rule_64 rfl rfl ?_
                refine jx_iload_n (i := 2) d_M_rule_65 rfl rfl ?_
                refine jx_putf d_M_rule_66 pf_M_94 (jx_up_s _ _ _) (Nat.le_of_ble_eq_true rfl) rfl rfl ?_
                refine jx_iload_n (i := 3) d_M_rule_69 rfl rfl ?_
                exact jx_iret d_M_rule_70 rfl (by omega) (by omega) (k1 hx ⟨c11, c16⟩ _ ⟨mk, ki, st, nu, fa, fl, nn, si, wo, ti, va, so, hmk, jx_up_s _ _ _, hO.to (fun q q1 q2 => (jx_up_n _ _ (by omega)).trans (jx_up_n _ _ (by omega))), hF, hK, hS5, hS⟩ (fun q hq => (jx_up_n _ _ (by omega)).trans (jx_up_n _ _ (by omega))))
              · exact absurd c53 c37
            · refine jx_aload_n (i := 0) d_M_rule_40 rfl rfl ?_
              refine jx_getf d_M_rule_41 gf_M_91 (jx_up_s _ _ _) rfl ?_
              refine jx_goto (tgt := 51) d_M_rule_44 (by decide) ?_
              refine jx_istore_n (i := 3) d_M_rule_51 rfl (Nat.le_of_ble_eq_true rfl) (jx_e4_3 (by trivial)) ?_
              refine jx_iload_n (i := 1) d_M_rule_52 rfl rfl ?_
              refine jx_if_ne (tgt := 64) d_M_rule_53 (by decide) (fun c53 => ?_) (fun c53 => ?_)
              · exact absurd c37 c53
              · refine jx_aload_n (i := 0) d_M_rule_56 rfl rfl ?_
                refine jx_iload_n (i := 2) d_M_rule_57 rfl rfl ?_
                refine jx_putf d_M_rule_58 pf_M_91 (jx_up_s _ _ _) (Nat.le_of_ble_eq_true rfl) rfl rfl ?_
                refine jx_goto (tgt := 69) d_M_rule_61 (by decide) ?_
                refine jx_iload_n (i := 3) d_M_rule_69 rfl rfl ?_
                exact jx_iret d_M_rule_70 rfl (by omega) (by omega) (k0 c37 ⟨c11, c16⟩ _ ⟨mk, ki, st, nu, fa, fl, nn, si, wo, ti, va, so, hmk, jx_up_s _ _ _, hO.to (fun q q1 q2 => (jx_up_n _ _ (by omega)).trans (jx_up_n _ _ (by omega))), hF, hK, hS5, hS⟩ (fun q hq => (jx_up_n _ _ (by omega)).trans (jx_up_n _ _ (by omega))))
          · exact absurd (by decide) c31
        · exact bad (fun h => c16 h.2.2)
theorem c_M_resume (hd : 0 < d) (hN : mW M b la wi en pe cd lr fr gt lt tk lc db fc le nF fd fw nK nm kd nS sn nA ac nO oc)
    (k0 : ∀ i, sp_ix (fun j => sn j == key) nS = some i → ∀ M', mW M' b la wi en pe 0 lr fr gt lt tk lc db fc le nF fd fw nK nm kd (nS - 1) (vp_updL sn i (sn (nS - 1))) nA ac nO oc → mFr b M M' → Z none M' sz)
    (kx : sp_ix (fun j => sn j == key) nS = none → ∀ M', mW M' b la wi en pe 1 lr fr gt lt tk lc db fc le nF fd fw nK nm kd nS sn nA ac nO oc → mFr b M M' → Z none M' sz) : jx_Cr md_M_resume G d [.ref b, .long key] M sz 0 0 Z := by
  refine jx_ent rfl (Nat.le_of_ble_eq_true rfl) (l := [some (.ref b), some (.long key), none, none]) (by simp [jx_le, jx_eas, Value.category]) (fun hlt => ?_)
  obtain ⟨mk, ki, st, nu, fa, fl, nn, si, wo, ti, va, so, hmk, hB, hO, hF, hK, hS5, hS⟩ := id hN
  obtain ⟨h1, h2, h3, h4, h5, h6, h7, h8, h9, h10, h11, h12, h13⟩ := id hO
  have hU : ∀ cd' : Int32, mW (jx_up M b (kf_M la wi en pe cd' nF b lr fr nK nS (kf_b (sp_wm gt)) mk lt nA nO tk lc db fc le)) b la wi en pe cd' lr fr gt lt tk lc db fc le nF fd fw nK nm kd nS sn nA ac nO oc := fun cd' => ⟨mk, ki, st, nu, fa, fl, nn, si, wo, ti, va, so, hmk, jx_up_s _ _ _, hO.to (fun q q1 q2 => jx_up_n _ _ (by omega)), hF, hK, hS5, hS⟩
  refine jx_aload_n (i := 0) d_M_resume_0 rfl rfl ?_
  refine jx_lload_n (i := 1) d_M_resume_1 rfl rfl ?_
  refine jx_callV1 d_M_resume_2 mv_M_106 hB rfl (jx_ok_rm (by omega) (Nat.le_of_ble_eq_true rfl)) (Nat.le_of_ble_eq_true rfl) (jx_rmc (by omega)) (jx_rms (by omega)) (c_M_stopOf (d := 0) hN ?_)
  dsimp only [Option.toList, List.cons_append, List.nil_append]
  cases hj : sp_ix (fun j => sn j == key) nS with
  | none =>
    refine jx_istore_n (i := 3) d_M_resume_5 rfl (Nat.le_of_ble_eq_true rfl) (jx_e4_3 (by trivial)) ?_
    refine jx_aload_n (i := 0) d_M_resume_6 rfl rfl ?_
    refine jx_iload_n (i := 3) d_M_resume_7 rfl rfl ?_
    refine jx_iconst (v := (-1)) d_M_resume_8 (by decide) ?_
    refine jx_icmp_ne (tgt := 16) d_M_resume_9 (by decide) (fun c9 => ?_) (fun c9 => ?_)
    · exact absurd kf_ix_none c9
    · refine jx_iconst (v := 1) d_M_resume_12 (by decide) ?_
      refine jx_goto (tgt := 17) d_M_resume_13 (by decide) ?_
      refine jx_putf d_M_resume_17 pf_M_67 hB (Nat.le_of_ble_eq_true rfl) rfl rfl ?_
      refine jx_aload_n (i := 0) d_M_resume_20 rfl rfl ?_
      refine jx_getf d_M_resume_21 gf_M_67 (jx_up_s _ _ _) rfl ?_
      refine jx_if_le (tgt := 28) d_M_resume_24 (by decide) (fun c24 => ?_) (fun c24 => ?_)
      · exact absurd c24 (by decide)
      · exact jx_vret d_M_resume_27 rfl (by omega) (by omega) (kx hj _ (hU 1) (fun q hq => jx_up_n _ _ (by omega)))
  | some i =>
    have hi := (sp_ix_lt hj).1
    rw [kf_ix_some]
    refine jx_istore_n (i := 3) d_M_resume_5 rfl (Nat.le_of_ble_eq_true rfl) (jx_e4_3 (by trivial)) ?_
    refine jx_aload_n (i := 0) d_M_resume_6 rfl rfl ?_
    refine jx_iload_n (i := 3) d_M_resume_7 rfl rfl ?_
    refine jx_iconst (v := (-1)) d_M_resume_8 (by decide) ?_
    refine jx_icmp_ne (tgt := 16) d_M_resume_9 (by decide) (fun c9 => ?_) (fun c9 => ?_)
    · refine jx_iconst (v := 0) d_M_resume_16 (by decide) ?_
      refine jx_putf d_M_resume_17 pf_M_67 hB (Nat.le_of_ble_eq_true rfl) rfl rfl ?_
      refine jx_aload_n (i := 0) d_M_resume_20 rfl rfl ?_
      refine jx_getf d_M_resume_21 gf_M_67 (jx_up_s _ _ _) rfl ?_
      refine jx_if_le (tgt := 28) d_M_resume_24 (by decide) (fun c24 => ?_) (fun c24 => ?_)
      · refine jx_aload_n (i := 0) d_M_resume_28 rfl rfl ?_
        refine jx_dup d_M_resume_29 rfl ?_
        refine jx_getf d_M_resume_30 gf_M_77 (jx_up_s _ _ _) rfl ?_
        refine jx_iconst (v := 1) d_M_resume_33 (by decide) ?_
        refine jx_isub d_M_resume_34 ?_
        rw [show nS = (nS - 1) + 1 by omega, nI_pred]
        refine jx_putf d_M_resume_35 pf_M_77 (jx_up_s _ _ _) (Nat.le_of_ble_eq_true rfl) rfl rfl ?_
        refine jx_aload_n (i := 0) d_M_resume_38 rfl rfl ?_
        refine jx_getf d_M_resume_39 gf_M_41 (jx_up_s _ _ _) rfl ?_
        refine jx_iload_n (i := 3) d_M_resume_42 rfl rfl ?_
        refine jx_aload_n (i := 0) d_M_resume_43 rfl rfl ?_
        refine jx_getf d_M_resume_44 gf_M_41 (jx_up_s _ _ _) rfl ?_
        refine jx_aload_n (i := 0) d_M_resume_47 rfl rfl ?_
        refine jx_getf d_M_resume_48 gf_M_77 (jx_up_s _ _ _) rfl ?_
        refine jx_laldj d_M_resume_51 ((jx_up_n _ _ (by omega)).trans ((jx_up_n _ _ (by omega)).trans h11)) rfl (by omega) (by omega) ?_
        refine jx_lastj d_M_resume_52 ((jx_up_n _ _ (by omega)).trans ((jx_up_n _ _ (by omega)).trans h11)) rfl (by omega) (by omega) ?_
        exact jx_vret d_M_resume_53 rfl (by omega) (by omega) (by
          have hk := k0 i hj
          refine hk _ ⟨mk, ki, st, nu, fa, fl, nn, si, wo, ti, va, _, hmk, (jx_up_n _ _ (by omega)).trans (jx_up_s _ _ _), ⟨?_, ?_, ?_, ?_, ?_, ?_, ?_, ?_, ?_, ?_, jx_up_s _ _ _, ?_, ?_⟩, hF, hK, by omega, fun q hq => ?_⟩ (fun q hq => (jx_up_n _ _ (by omega)).trans ((jx_up_n _ _ (by omega)).trans (jx_up_n _ _ (by omega))))
          all_goals try (refine (jx_up_n _ _ (by omega)).trans ((jx_up_n _ _ (by omega)).trans ((jx_up_n _ _ (by omega)).trans ?_)); assumption)
          by_cases hqi : q = i
          · subst hqi
            rw [updL_s, updL_s, hS _ (by omega)]
          · rw [updL_n _ _ hqi, updL_n _ _ hqi, hS _ (by omega)])
      · exact absurd (by decide) c24
    · exact absurd c9 (nI_m1 (by omega))
theorem c_M_putAside (hnA : nA < 2 ^ 29) (hN : mW M b la wi en pe cd lr fr gt lt tk lc db fc le nF fd fw nK nm kd nS sn nA ac nO oc) (k : ∀ M', mW M' b la wi en pe cd lr fr gt lt tk lc db fc le nF fd fw nK nm kd nS sn (nA + 1) (sp_pa ac nA key t v cs.toInt64) nO oc → mFr b M M' → Z none M' sz) : jx_Cr md_M_putAside G d [.ref b, .long key, .long t, .long v, .int cs] M sz 0 0 Z := by
  refine jx_ent rfl (Nat.le_of_ble_eq_true rfl) (l := [some (.ref b), some (.long key), none, some (.long t), none, some (.long v), none, some (.int cs)]) (by simp [jx_le, jx_eas, Value.category]) (fun hlt => ?_)
  obtain ⟨mk, ki, st, nu, fa, fl, nn, si, wo, ti, va, so, hmk, hB, hO, hF, hK, hS5, hS⟩ := id hN
  obtain ⟨h1, h2, h3, h4, h5, h6, h7, h8, h9, h10, h11, h12, h13⟩ := id hO
  refine jx_aload_n (i := 0) d_M_putAside_0 rfl rfl ?_
  refine jx_getf d_M_putAside_1 gf_M_101 hB rfl ?_
  refine jx_bipush (v := 100) d_M_putAside_4 (by decide) ?_
  refine jx_icmp_ge (tgt := 66) d_M_putAside_6 (by decide) (fun c6 => ?_) (fun c6 => ?_)
  · have h100 : ¬ nA < 100 := fun h => by
      have := (nI_leI (a := 100) (b := nA) (by omega) (by omega)).mp c6
      omega
    rw [sp_pa, if_neg h100] at k
    refine jx_aload_n (i := 0) d_M_putAside_66 rfl rfl ?_
    refine jx_dup d_M_putAside_67 rfl ?_
    refine jx_getf d_M_putAside_68 gf_M_101 hB rfl ?_
    refine jx_iconst (v := 1) d_M_putAside_71 (by decide) ?_
    refine jx_iadd d_M_putAside_72 ?_
    refine jx_putf d_M_putAside_73 pf_M_101 hB (Nat.le_of_ble_eq_true rfl) rfl rfl ?_
    exact jx_vret d_M_putAside_76 rfl (by omega) (by omega) (k _ ⟨mk, ki, st, nu, fa, fl, nn, si, wo, ti, va, so, hmk, by rw [nI_1]; exact jx_up_s _ _ _, hO.to (fun q q1 q2 => jx_up_n _ _ (by omega)), hF, hK, hS5, hS⟩ (fun q hq => jx_up_n _ _ (by omega)))
  · have h100 : nA < 100 := by
      rcases Nat.lt_or_ge nA 100 with h | h
      · exact h
      · exact absurd ((nI_leI (a := 100) (b := nA) (by omega) (by omega)).mpr h) c6
    rw [sp_pa, if_pos h100] at k
    have q0 : (4 : Int32) * nI nA = nI (nA * 4 + 0) := by rw [show (4 : Int32) = nI 4 from rfl, pk_mul]; congr 1; omega
    have q1 : (4 : Int32) * nI nA + 1 = nI (nA * 4 + 1) := by rw [q0, nI_1]
    have q2 : (4 : Int32) * nI nA + 2 = nI (nA * 4 + 2) := by rw [q0, show (2 : Int32) = nI 2 from rfl, nI_add]
    have q3 : (4 : Int32) * nI nA + 3 = nI (nA * 4 + 3) := by rw [q0, show (3 : Int32) = nI 3 from rfl, nI_add]
    have u1 : ∀ e, jx_up M (b + 12) e b = some (kf_M la wi en pe cd nF b lr fr nK nS (kf_b (sp_wm gt)) mk lt nA nO tk lc db fc le) := fun e => (jx_up_n _ _ (by omega)).trans hB
    refine jx_aload_n (i := 0) d_M_putAside_9 rfl rfl ?_
    refine jx_getf d_M_putAside_10 gf_M_44 hB rfl ?_
    refine jx_iconst (v := 4) d_M_putAside_13 (by decide) ?_
    refine jx_aload_n (i := 0) d_M_putAside_14 rfl rfl ?_
    refine jx_getf d_M_putAside_15 gf_M_101 hB rfl ?_
    refine jx_imul d_M_putAside_18 ?_
    refine jx_lload_n (i := 1) d_M_putAside_19 rfl rfl ?_
    refine jx_lastj d_M_putAside_20 h12 q0 (by omega) (by omega) ?_
    refine jx_aload_n (i := 0) d_M_putAside_21 rfl rfl ?_
    refine jx_getf d_M_putAside_22 gf_M_44 (u1 _) rfl ?_
    refine jx_iconst (v := 4) d_M_putAside_25 (by decide) ?_
    refine jx_aload_n (i := 0) d_M_putAside_26 rfl rfl ?_
    refine jx_getf d_M_putAside_27 gf_M_101 (u1 _) rfl ?_
    refine jx_imul d_M_putAside_30 ?_
    refine jx_iconst (v := 1) d_M_putAside_31 (by decide) ?_
    refine jx_iadd d_M_putAside_32 ?_
    refine jx_lload_n (i := 3) d_M_putAside_33 rfl rfl ?_
    refine jx_lastj d_M_putAside_34 (jx_up_s _ _ _) q1 (by omega) (by omega) ?_
    rw [jx_up_u]
    refine jx_aload_n (i := 0) d_M_putAside_35 rfl rfl ?_
    refine jx_getf d_M_putAside_36 gf_M_44 (u1 _) rfl ?_
    refine jx_iconst (v := 4) d_M_putAside_39 (by decide) ?_
    refine jx_aload_n (i := 0) d_M_putAside_40 rfl rfl ?_
    refine jx_getf d_M_putAside_41 gf_M_101 (u1 _) rfl ?_
    refine jx_imul d_M_putAside_44 ?_
    refine jx_iconst (v := 2) d_M_putAside_45 (by decide) ?_
    refine jx_iadd d_M_putAside_46 ?_
    refine jx_lload d_M_putAside_47 rfl ?_
    refine jx_lastj d_M_putAside_49 (jx_up_s _ _ _) q2 (by omega) (by omega) ?_
    rw [jx_up_u]
    refine jx_aload_n (i := 0) d_M_putAside_50 rfl rfl ?_
    refine jx_getf d_M_putAside_51 gf_M_44 (u1 _) rfl ?_
    refine jx_iconst (v := 4) d_M_putAside_54 (by decide) ?_
    refine jx_aload_n (i := 0) d_M_putAside_55 rfl rfl ?_
    refine jx_getf d_M_putAside_56 gf_M_101 (u1 _) rfl ?_
    refine jx_imul d_M_putAside_59 ?_
    refine jx_iconst (v := 3) d_M_putAside_60 (by decide) ?_
    refine jx_iadd d_M_putAside_61 ?_
    refine jx_iload d_M_putAside_62 rfl ?_
    refine jx_i2l d_M_putAside_64 ?_
    refine jx_lastj d_M_putAside_65 (jx_up_s _ _ _) q3 (by omega) (by omega) ?_
    rw [jx_up_u]
    refine jx_aload_n (i := 0) d_M_putAside_66 rfl rfl ?_
    refine jx_dup d_M_putAside_67 rfl ?_
    refine jx_getf d_M_putAside_68 gf_M_101 (u1 _) rfl ?_
    refine jx_iconst (v := 1) d_M_putAside_71 (by decide) ?_
    refine jx_iadd d_M_putAside_72 ?_
    refine jx_putf d_M_putAside_73 pf_M_101 (u1 _) (Nat.le_of_ble_eq_true rfl) rfl rfl ?_
    exact jx_vret d_M_putAside_76 rfl (by omega) (by omega) (by
      refine k _ ⟨mk, ki, st, nu, fa, fl, nn, si, wo, ti, va, so, hmk, by rw [nI_1]; exact jx_up_s _ _ _, ⟨?_, ?_, ?_, ?_, ?_, ?_, ?_, ?_, ?_, ?_, ?_, (jx_up_n _ _ (by omega)).trans (jx_up_s _ _ _), ?_⟩, hF, hK, hS5, hS⟩ (fun q hq => (jx_up_n _ _ (by omega)).trans (jx_up_n _ _ (by omega)))
      all_goals (refine (jx_up_n _ _ (by omega)).trans ((jx_up_n _ _ (by omega)).trans ?_); assumption))
end CM6
