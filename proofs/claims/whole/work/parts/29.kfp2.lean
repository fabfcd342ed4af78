/-! PART 29: KeyedFolds, further public methods -/
section CP2
variable {G : jx_G} {d a lo far kar nF nK sz nS nA nO : Nat} {la wi en pe lr fr tk lc db fc le x x2 : Int32} {gt lt t v key : Int64} {fo ko : Nat → Nat} {nm : Nat → Int64} {kd : Nat → sp_key} {fd : sp_fd} {fw : Nat → Nat → Int64} {sn ac oc : Nat → Int64} {M : jx_H} {Z : Option Value → jx_H → Nat → Prop} {ZX : String → jx_H → Nat → Prop}
theorem c_K_rule (hd : 4 < d) (hK : M a = some (kf_K la wi en pe (a + 1) (a + 2) (a + 3) (a + 5) (a + 7) lr fr gt lt tk lc db fc le))
    (k0 : x = 0 → (¬ x2 < 0 ∧ x2 ≤ 2) → Z (some (.int lr)) (jx_up M a (kf_K la wi en pe (a + 1) (a + 2) (a + 3) (a + 5) (a + 7) x2 fr gt lt tk lc db fc le)) sz)
    (k1 : x = 1 → (¬ x2 < 0 ∧ x2 ≤ 2) → Z (some (.int fr)) (jx_up M a (kf_K la wi en pe (a + 1) (a + 2) (a + 3) (a + 5) (a + 7) lr x2 gt lt tk lc db fc le)) sz)
    (kx : ¬ ((¬ x < 0 ∧ x ≤ 1) ∧ ¬ x2 < 0 ∧ x2 ≤ 2) → ∀ sz', sz ≤ sz' → ZX xIA M sz') : jx_Cx md_K_rule G d [.ref a, .int x, .int x2] M sz 1 6 Z ZX := by
  refine jx_entx rfl (Nat.le_of_ble_eq_true rfl) (l := [some (.ref a), some (.int x), some (.int x2), none]) (by simp [jx_le, jx_eas, Value.category]) (fun hlt => ?_)
  refine jx_iload_n (i := 1) d_K_rule_0 rfl rfl ?_
  refine jx_if_lt (tgt := 9) d_K_rule_1 (by decide) (fun c1 => ?_) (fun c1 => ?_)
  · exact jx_throw tl_IA ts_144 d_K_rule_9 d_K_rule_12 d_K_rule_13 d_K_rule_15 d_K_rule_18 (by omega) (by omega) (by omega) (kx (fun h => h.1.1 c1))
  · refine jx_iload_n (i := 1) d_K_rule_4 rfl rfl ?_
    refine jx_iconst (v := 1) d_K_rule_5 (by decide) ?_
    refine jx_icmp_le (tgt := 19) d_K_rule_6 (by decide) (fun c6 => ?_) (fun c6 => ?_)
    · refine jx_iload_n (i := 2) d_K_rule_19 rfl rfl ?_
      refine jx_if_lt (tgt := 28) d_K_rule_20 (by decide) (fun c20 => ?_) (fun c20 => ?_)
      · exact jx_throw tl_IA ts_146 d_K_rule_28 d_K_rule_31 d_K_rule_32 d_K_rule_34 d_K_rule_37 (by omega) (by omega) (by omega) (kx (fun h => h.2.1 c20))
      · refine jx_iload_n (i := 2) d_K_rule_23 rfl rfl ?_
        refine jx_iconst (v := 2) d_K_rule_24 (by decide) ?_
        refine jx_icmp_le (tgt := 38) d_K_rule_25 (by decide) (fun c25 => ?_) (fun c25 => ?_)
        · refine jx_iload_n (i := 1) d_K_rule_38 rfl rfl ?_
          refine jx_if_ne (tgt := 55) d_K_rule_39 (by decide) (fun c39 => ?_) (fun c39 => ?_)
          · have hx1 : x = 1 := by
              obtain ⟨j, hj, hx⟩ := nI_of2 (M := 1) (n := 1) (by decide) c1 c6
              match j, hj, hx with
              | 0, _, hx => exact absurd hx c39
              | 1, _, hx => exact hx
            refine jx_aload_n (i := 0) d_K_rule_55 rfl rfl ?_
            refine jx_getf d_K_rule_56 gf_K_42 hK rfl ?_
            refine jx_istore_n (i := 3) d_K_rule_59 rfl (Nat.le_of_ble_eq_true rfl) (jx_e4_3 (by trivial)) ?_
            refine jx_aload_n (i := 0) d_K_rule_60 rfl rfl ?_
            refine jx_iload_n (i := 2) d_K_rule_61 rfl rfl ?_
            refine jx_putf d_K_rule_62 pf_K_42 hK (Nat.le_of_ble_eq_true rfl) rfl rfl ?_
            refine jx_iload_n (i := 3) d_K_rule_65 rfl rfl ?_
            refine jx_q2 ?_
            exact jx_iret d_K_rule_66 rfl (by omega) (by omega) (k1 hx1 ⟨c20, c25⟩)
          · refine jx_aload_n (i := 0) d_K_rule_42 rfl rfl ?_
            refine jx_getf d_K_rule_43 gf_K_38 hK rfl ?_
            refine jx_istore_n (i := 3) d_K_rule_46 rfl (Nat.le_of_ble_eq_true rfl) (jx_e4_3 (by trivial)) ?_
            refine jx_aload_n (i := 0) d_K_rule_47 rfl rfl ?_
            refine jx_iload_n (i := 2) d_K_rule_48 rfl rfl ?_
            refine jx_putf d_K_rule_49 pf_K_38 hK (Nat.le_of_ble_eq_true rfl) rfl rfl ?_
            refine jx_goto (tgt := 65) d_K_rule_52 (by decide) ?_
            refine jx_iload_n (i := 3) d_K_rule_65 rfl rfl ?_
            refine jx_q2 ?_
            exact jx_iret d_K_rule_66 rfl (by omega) (by omega) (k0 c39 ⟨c20, c25⟩)
        · exact jx_throw tl_IA ts_146 d_K_rule_28 d_K_rule_31 d_K_rule_32 d_K_rule_34 d_K_rule_37 (by omega) (by omega) (by omega) (kx (fun h => c25 h.2.2))
    · exact jx_throw tl_IA ts_144 d_K_rule_9 d_K_rule_12 d_K_rule_13 d_K_rule_15 d_K_rule_18 (by omega) (by omega) (by omega) (kx (fun h => c6 h.1.2))
theorem c_K_told (hd : 4 < d) (hK : M a = some (kf_K la wi en pe (a + 1) (a + 2) (a + 3) (a + 5) (a + 7) lr fr gt lt tk lc db fc le)) (hF : kC_F G M a lo far nF fo fd fw) (hQ : kC_K G M a lo nF kar nK ko nm kd) (hA : M (a + 5) = some (kf_T nA 100 4 (a + 6))) (hO : M (a + 7) = some (kf_T nO 300 8 (a + 8)))
    (k0 : x = 0 → Z (some (.int (nI nF))) M sz) (k1 : x = 1 → Z (some (.int (nI nK))) M sz) (k2 : x = 2 → Z (some (.int (nI nA))) M sz) (k3 : x = 3 → Z (some (.int (nI nO))) M sz) (k4 : x = 4 → Z (some (.int tk)) M sz) (k5 : x = 5 → Z (some (.int lc)) M sz) (k6 : x = 6 → Z (some (.int db)) M sz) (k7 : x = 7 → Z (some (.int fc)) M sz) (k8 : x = 8 → Z (some (.int le)) M sz)
    (kx : ¬ (¬ x < 0 ∧ x ≤ 8) → ∀ sz', sz ≤ sz' → ZX xIA M sz') : jx_Cx md_K_told G d [.ref a, .int x] M sz 1 6 Z ZX := by
  refine jx_entx rfl (Nat.le_of_ble_eq_true rfl) (l := [some (.ref a), some (.int x)]) (by simp [jx_le, jx_eas, Value.category]) (fun hlt => ?_)
  obtain ⟨mo, hAF⟩ := hF.1.1.1
  obtain ⟨mo2, hAK⟩ := hQ.1.1
  refine jx_iload_n (i := 1) d_K_told_0 rfl rfl ?_
  by_cases hx : ¬ x < 0 ∧ x ≤ 8
  · obtain ⟨j, hj, hxj⟩ := nI_of2 (M := 8) (n := 8) (by decide) hx.1 hx.2
    subst hxj
    match j, hj with
    | 0, _ =>
      refine jx_tableIn (tgt := 52) d_K_told_1 (by decide) (by decide) rfl (by decide) ?_
      refine jx_aload_n (i := 0) d_K_told_52 rfl rfl ?_
      refine jx_getf d_K_told_53 gf_K_10 hK rfl ?_
      refine jx_callV0 d_K_told_56 mv_K_92 hAF rfl (jx_ok_rm (by omega) (Nat.le_of_ble_eq_true rfl)) (Nat.le_of_ble_eq_true rfl) (jx_rmc (by omega)) (jx_rms (by omega)) (c_L_size (d := 0) hF.1.1 ?_)
      dsimp only [Option.toList, List.cons_append, List.nil_append]
      refine jx_q2 ?_
      exact jx_iret d_K_told_59 rfl (by omega) (by omega) (k0 rfl)
    | 1, _ =>
      refine jx_tableIn (tgt := 60) d_K_told_1 (by decide) (by decide) rfl (by decide) ?_
      refine jx_aload_n (i := 0) d_K_told_60 rfl rfl ?_
      refine jx_getf d_K_told_61 gf_K_16 hK rfl ?_
      refine jx_callV0 d_K_told_64 mv_K_92 hAK rfl (jx_ok_rm (by omega) (Nat.le_of_ble_eq_true rfl)) (Nat.le_of_ble_eq_true rfl) (jx_rmc (by omega)) (jx_rms (by omega)) (c_L_size (d := 0) hQ.1 ?_)
      dsimp only [Option.toList, List.cons_append, List.nil_append]
      refine jx_q2 ?_
      exact jx_iret d_K_told_67 rfl (by omega) (by omega) (k1 rfl)
    | 2, _ =>
      refine jx_tableIn (tgt := 68) d_K_told_1 (by decide) (by decide) rfl (by decide) ?_
      refine jx_aload_n (i := 0) d_K_told_68 rfl rfl ?_
      refine jx_getf d_K_told_69 gf_K_31 hK rfl ?_
      refine jx_getf d_K_told_72 gf_K_244 hA rfl ?_
      refine jx_q2 ?_
      exact jx_iret d_K_told_75 rfl (by omega) (by omega) (k2 rfl)
    | 3, _ =>
      refine jx_tableIn (tgt := 76) d_K_told_1 (by decide) (by decide) rfl (by decide) ?_
      refine jx_aload_n (i := 0) d_K_told_76 rfl rfl ?_
      refine jx_getf d_K_told_77 gf_K_35 hK rfl ?_
      refine jx_getf d_K_told_80 gf_K_244 hO rfl ?_
      refine jx_q2 ?_
      exact jx_iret d_K_told_83 rfl (by omega) (by omega) (k3 rfl)
    | 4, _ =>
      refine jx_tableIn (tgt := 84) d_K_told_1 (by decide) (by decide) rfl (by decide) ?_
      refine jx_aload_n (i := 0) d_K_told_84 rfl rfl ?_
      refine jx_getf d_K_told_85 gf_K_54 hK rfl ?_
      refine jx_q2 ?_
      exact jx_iret d_K_told_88 rfl (by omega) (by omega) (k4 rfl)
    | 5, _ =>
      refine jx_tableIn (tgt := 89) d_K_told_1 (by decide) (by decide) rfl (by decide) ?_
      refine jx_aload_n (i := 0) d_K_told_89 rfl rfl ?_
      refine jx_getf d_K_told_90 gf_K_57 hK rfl ?_
      refine jx_q2 ?_
      exact jx_iret d_K_told_93 rfl (by omega) (by omega) (k5 rfl)
    | 6, _ =>
      refine jx_tableIn (tgt := 94) d_K_told_1 (by decide) (by decide) rfl (by decide) ?_
      refine jx_aload_n (i := 0) d_K_told_94 rfl rfl ?_
      refine jx_getf d_K_told_95 gf_K_60 hK rfl ?_
      refine jx_q2 ?_
      exact jx_iret d_K_told_98 rfl (by omega) (by omega) (k6 rfl)
    | 7, _ =>
      refine jx_tableIn (tgt := 99) d_K_told_1 (by decide) (by decide) rfl (by decide) ?_
      refine jx_aload_n (i := 0) d_K_told_99 rfl rfl ?_
      refine jx_getf d_K_told_100 gf_K_63 hK rfl ?_
      refine jx_q2 ?_
      exact jx_iret d_K_told_103 rfl (by omega) (by omega) (k7 rfl)
    | 8, _ =>
      refine jx_tableIn (tgt := 104) d_K_told_1 (by decide) (by decide) rfl (by decide) ?_
      refine jx_aload_n (i := 0) d_K_told_104 rfl rfl ?_
      refine jx_getf d_K_told_105 gf_K_66 hK rfl ?_
      refine jx_q2 ?_
      exact jx_iret d_K_told_108 rfl (by omega) (by omega) (k8 rfl)
  · have hx2 : x.toInt < 0 ∨ 8 < x.toInt := by
      rw [Int32.lt_iff_toInt_lt, Int32.le_iff_toInt_le, show (0 : Int32).toInt = 0 by decide, show (8 : Int32).toInt = 8 by decide] at hx
      omega
    refine jx_tableOut (tgt := 109) d_K_told_1 hx2 (by decide) ?_
    exact jx_throw tl_IA ts_247 d_K_told_109 d_K_told_112 d_K_told_113 d_K_told_115 d_K_told_118 (by omega) (by omega) (by omega) (kx hx)
theorem c_K_state (hd : 4 < d) (hK : M a = some (kf_K la wi en pe (a + 1) (a + 2) (a + 3) (a + 5) (a + 7) lr fr gt lt tk lc db fc le)) (hF : kC_F G M a lo far nF fo fd fw) (hQ : kC_K G M a lo nF kar nK ko nm kd)
    (k : ∀ f j, f < nF → x = nI f → sp_ix (fun j => nm j == key) nK = some j → Z (some (.long ((kd j).2.2.2.2 f))) M sz) (kx : ¬ ((0 ≤ x.toInt ∧ x.toInt < nF) ∧ (sp_ix (fun j => nm j == key) nK).isSome) → ∀ sz', sz ≤ sz' → ZX xIO M sz') : jx_Cx md_K_state G d [.ref a, .long key, .int x] M sz 1 6 Z ZX := by
  refine jx_entx rfl (Nat.le_of_ble_eq_true rfl) (l := [some (.ref a), some (.long key), none, some (.int x), none]) (by simp [jx_le, jx_eas, Value.category]) (fun hlt => ?_)
  have hnF := hF.1.2.1
  have hnK := hQ.2.1
  obtain ⟨mo2, hAK⟩ := hQ.1.1
  refine jx_aload_n (i := 0) d_K_state_0 rfl rfl ?_
  refine jx_iload_n (i := 3) d_K_state_1 rfl rfl ?_
  refine jx_callV1 d_K_state_2 mv_K_116 hK rfl (jx_ok_rm (by omega) (Nat.le_of_ble_eq_true rfl)) (Nat.le_of_ble_eq_true rfl) (jx_rmc (by omega)) (jx_rms (by omega)) (c_K_isFold (d := 1) (by omega) hK hF.1.1 hnF ?_)
  dsimp only [Option.toList, List.cons_append, List.nil_append]
  refine jx_if_ne (tgt := 18) d_K_state_5 (by decide) (fun c5 => ?_) (fun c5 => ?_)
  · have h1 := of_decide_eq_true (kf_b_ne0 c5)
    obtain ⟨f, hf, hxf⟩ := nI_ofI h1
    refine jx_aload_n (i := 0) d_K_state_18 rfl rfl ?_
    refine jx_lload_n (i := 1) d_K_state_19 rfl rfl ?_
    refine jx_callV1 d_K_state_20 mv_K_190 hK rfl (jx_ok_rm (by omega) (Nat.le_of_ble_eq_true rfl)) (Nat.le_of_ble_eq_true rfl) (jx_rmc (by omega)) (jx_rms (by omega)) (c_K_placeOfKey (d := 3) (by omega) hK hQ.kn ?_)
    dsimp only [Option.toList, List.cons_append, List.nil_append]
    cases hj : sp_ix (fun j => nm j == key) nK with
    | none =>
      refine jx_istore d_K_state_23 (Nat.le_of_ble_eq_true rfl) (jx_e5_4 (by trivial)) ?_
      refine jx_iload d_K_state_25 rfl ?_
      refine jx_if_ge (tgt := 40) d_K_state_27 (by decide) (fun c27 => ?_) (fun c27 => ?_)
      · exact absurd c27 (by simp [kf_ix])
      · exact jx_throw tl_IO ts_194 d_K_state_30 d_K_state_33 d_K_state_34 d_K_state_36 d_K_state_39 (by omega) (by omega) (by omega) (kx (by simp [hj]))
    | some j =>
      obtain ⟨hjK, -⟩ := sp_ix_lt hj
      obtain ⟨hk60, hk, -⟩ := hQ.2.2.2.1 j hjK
      refine jx_istore d_K_state_23 (Nat.le_of_ble_eq_true rfl) (jx_e5_4 (by trivial)) ?_
      refine jx_iload d_K_state_25 rfl ?_
      refine jx_if_ge (tgt := 40) d_K_state_27 (by decide) (fun c27 => ?_) (fun c27 => ?_)
      · subst hxf
        refine jx_aload_n (i := 0) d_K_state_40 rfl rfl ?_
        refine jx_getf d_K_state_41 gf_K_16 hK rfl ?_
        refine jx_iload d_K_state_44 rfl ?_
        refine jx_callV1 d_K_state_46 mv_K_125 hAK rfl (jx_ok_rm (by omega) (Nat.le_of_ble_eq_true rfl)) (Nat.le_of_ble_eq_true rfl) (jx_rmc (by omega)) (jx_rms (by omega)) (c_L_get (d := 2) (by omega) hQ.1 hjK ?_)
        dsimp only [Option.toList, List.cons_append, List.nil_append]
        refine jx_castn d_K_state_49 hk.1 rfl nk_K_196 nx_R_KeyedFolds_KeyRows ?_
        refine jx_getf d_K_state_52 gf_K_198 hk.1 rfl ?_
        refine jx_iload_n (i := 3) d_K_state_55 rfl rfl ?_
        refine jx_lald (t0 := 1) d_K_state_56 hk.2.2.2.1 rfl (vp_in_nI hf (by omega)) ?_
        refine jx_q2 ?_
        exact jx_lret d_K_state_57 rfl (by omega) (by omega) (by
          have hkk := k f j hf rfl hj
          rw [← nI_clamp (n := f) (by omega)] at hkk
          exact hkk)
      · exact absurd (nI_pos' (n := j) (by omega)) c27
  · exact jx_throw tl_IO ts_122 d_K_state_8 d_K_state_11 d_K_state_12 d_K_state_14 d_K_state_17 (by omega) (by omega) (by omega) (kx (fun h => absurd h.1 (of_decide_eq_false (kf_b_ne c5))))
theorem c_K_folded (hd : 4 < d) (hK : M a = some (kf_K la wi en pe (a + 1) (a + 2) (a + 3) (a + 5) (a + 7) lr fr gt lt tk lc db fc le)) (hF : kC_F G M a lo far nF fo fd fw) (hQ : kC_K G M a lo nF kar nK ko nm kd) (hI : ∀ j, j < nK → ∀ f, f < nF → (kd j).2.2.2.2 f = sp_fo (fd f).1 (fd f).2.1 (fd f).2.2.1 (kd j).2.2.1 (kd j).2.2.2.1 (kd j).1)
    (k : ∀ j, sp_ix (fun j => nm j == key) nK = some j → Z (some (.int 1)) M sz) (kx : sp_ix (fun j => nm j == key) nK = none → ∀ sz', sz ≤ sz' → ZX xIO M sz') : jx_Cx md_K_folded G d [.ref a, .long key] M sz 1 6 Z ZX := by
  refine jx_entx rfl (Nat.le_of_ble_eq_true rfl) (l := [some (.ref a), some (.long key), none, none]) (by simp [jx_le, jx_eas, Value.category]) (fun hlt => ?_)
  have hnF := hF.1.2.1
  have hnK := hQ.2.1
  obtain ⟨mo2, hAK⟩ := hQ.1.1
  refine jx_aload_n (i := 0) d_K_folded_0 rfl rfl ?_
  refine jx_lload_n (i := 1) d_K_folded_1 rfl rfl ?_
  refine jx_callV1 d_K_folded_2 mv_K_190 hK rfl (jx_ok_rm (by omega) (Nat.le_of_ble_eq_true rfl)) (Nat.le_of_ble_eq_true rfl) (jx_rmc (by omega)) (jx_rms (by omega)) (c_K_placeOfKey (d := 3) (by omega) hK hQ.kn ?_)
  dsimp only [Option.toList, List.cons_append, List.nil_append]
  cases hj : sp_ix (fun j => nm j == key) nK with
  | none =>
    refine jx_istore_n (i := 3) d_K_folded_5 rfl (Nat.le_of_ble_eq_true rfl) (jx_e4_3 (by trivial)) ?_
    refine jx_iload_n (i := 3) d_K_folded_6 rfl rfl ?_
    refine jx_if_ge (tgt := 20) d_K_folded_7 (by decide) (fun c7 => ?_) (fun c7 => ?_)
    · exact absurd c7 (by simp [kf_ix])
    · exact jx_throw tl_IO ts_194 d_K_folded_10 d_K_folded_13 d_K_folded_14 d_K_folded_16 d_K_folded_19 (by omega) (by omega) (by omega) (kx hj)
  | some j =>
    obtain ⟨hjK, -⟩ := sp_ix_lt hj
    obtain ⟨hk60, hk, -⟩ := hQ.2.2.2.1 j hjK
    refine jx_istore_n (i := 3) d_K_folded_5 rfl (Nat.le_of_ble_eq_true rfl) (jx_e4_3 (by trivial)) ?_
    refine jx_iload_n (i := 3) d_K_folded_6 rfl rfl ?_
    refine jx_if_ge (tgt := 20) d_K_folded_7 (by decide) (fun c7 => ?_) (fun c7 => ?_)
    · refine jx_aload_n (i := 0) d_K_folded_20 rfl rfl ?_
      refine jx_getf d_K_folded_21 gf_K_16 hK rfl ?_
      refine jx_iload_n (i := 3) d_K_folded_24 rfl rfl ?_
      refine jx_callV1 d_K_folded_25 mv_K_125 hAK rfl (jx_ok_rm (by omega) (Nat.le_of_ble_eq_true rfl)) (Nat.le_of_ble_eq_true rfl) (jx_rmc (by omega)) (jx_rms (by omega)) (c_L_get (d := 2) (by omega) hQ.1 hjK ?_)
      dsimp only [Option.toList, List.cons_append, List.nil_append]
      refine jx_castn d_K_folded_28 hk.1 rfl nk_K_196 nx_R_KeyedFolds_KeyRows ?_
      refine jx_callV0 d_K_folded_31 mv_K_249 hk.1 rfl (jx_ok_rm (by omega) (Nat.le_of_ble_eq_true rfl)) (Nat.le_of_ble_eq_true rfl) (jx_rmc (by omega)) (jx_rms (by omega)) (c_R_folded (d := 3) (by omega) hk60 hk hF.1 (hI j hjK) ?_)
      dsimp only [Option.toList, List.cons_append, List.nil_append]
      refine jx_q2 ?_
      exact jx_zret d_K_folded_34 rfl (by first | exact Or.inl rfl | exact Or.inr rfl) (by omega) (by omega) (k j hj)
    · exact absurd (nI_pos' (n := j) (by omega)) c7
theorem c_K_rowOf {x3 : Int32} (hd : 4 < d) (hK : M a = some (kf_K la wi en pe (a + 1) (a + 2) (a + 3) (a + 5) (a + 7) lr fr gt lt tk lc db fc le)) (hQ : kC_K G M a lo nF kar nK ko nm kd)
    (k : ∀ j i, sp_ix (fun j => nm j == key) nK = some j → i < (kd j).1 → x = nI i → (¬ x2 < 0 ∧ x2 ≤ 1) → Z (some (.long (if x2 = 0 then (kd j).2.2.1 i else (kd j).2.2.2.1 i))) M sz) (kx : ¬ (∃ j i, sp_ix (fun j => nm j == key) nK = some j ∧ i < (kd j).1 ∧ x = nI i ∧ (¬ x2 < 0 ∧ x2 ≤ 1)) → ∀ sz', sz ≤ sz' → ZX xIO M sz') : jx_Cx md_K_rowOf G d [.ref a, .long key, .int x, .int x2] M sz 1 6 Z ZX := by
  refine jx_entx rfl (Nat.le_of_ble_eq_true rfl) (l := [some (.ref a), some (.long key), none, some (.int x), some (.int x2), none, none]) (by simp [jx_le, jx_eas, Value.category]) (fun hlt => ?_)
  have hnK := hQ.2.1
  obtain ⟨mo2, hAK⟩ := hQ.1.1
  refine jx_aload_n (i := 0) d_K_rowOf_0 rfl rfl ?_
  refine jx_lload_n (i := 1) d_K_rowOf_1 rfl rfl ?_
  refine jx_callV1 d_K_rowOf_2 mv_K_190 hK rfl (jx_ok_rm (by omega) (Nat.le_of_ble_eq_true rfl)) (Nat.le_of_ble_eq_true rfl) (jx_rmc (by omega)) (jx_rms (by omega)) (c_K_placeOfKey (d := 3) (by omega) hK hQ.kn ?_)
  dsimp only [Option.toList, List.cons_append, List.nil_append]
  cases hj : sp_ix (fun j => nm j == key) nK with
  | none =>
    refine jx_istore d_K_rowOf_5 (Nat.le_of_ble_eq_true rfl) (jx_e7_5 (by trivial)) ?_
    refine jx_iload d_K_rowOf_7 rfl ?_
    refine jx_if_ge (tgt := 22) d_K_rowOf_9 (by decide) (fun c9 => ?_) (fun c9 => ?_)
    · exact absurd c9 (by simp [kf_ix])
    · exact jx_throw tl_IO ts_194 d_K_rowOf_12 d_K_rowOf_15 d_K_rowOf_16 d_K_rowOf_18 d_K_rowOf_21 (by omega) (by omega) (by omega) (kx (by rintro ⟨j, i, h1, -⟩; rw [hj] at h1; cases h1))
  | some j =>
    obtain ⟨hjK, -⟩ := sp_ix_lt hj
    obtain ⟨hk60, hk, -⟩ := hQ.2.2.2.1 j hjK
    refine jx_istore d_K_rowOf_5 (Nat.le_of_ble_eq_true rfl) (jx_e7_5 (by trivial)) ?_
    refine jx_iload d_K_rowOf_7 rfl ?_
    refine jx_if_ge (tgt := 22) d_K_rowOf_9 (by decide) (fun c9 => ?_) (fun c9 => ?_)
    · refine jx_aload_n (i := 0) d_K_rowOf_22 rfl rfl ?_
      refine jx_getf d_K_rowOf_23 gf_K_16 hK rfl ?_
      refine jx_iload d_K_rowOf_26 rfl ?_
      refine jx_callV1 d_K_rowOf_28 mv_K_125 hAK rfl (jx_ok_rm (by omega) (Nat.le_of_ble_eq_true rfl)) (Nat.le_of_ble_eq_true rfl) (jx_rmc (by omega)) (jx_rms (by omega)) (c_L_get (d := 2) (by omega) hQ.1 hjK ?_)
      dsimp only [Option.toList, List.cons_append, List.nil_append]
      refine jx_castn d_K_rowOf_31 hk.1 rfl nk_K_196 nx_R_KeyedFolds_KeyRows ?_
      refine jx_astore d_K_rowOf_34 (Nat.le_of_ble_eq_true rfl) (jx_e7_6 (by trivial)) ?_
      refine jx_iload_n (i := 3) d_K_rowOf_36 rfl rfl ?_
      refine jx_if_lt (tgt := 49) d_K_rowOf_37 (by decide) (fun c37 => ?_) (fun c37 => ?_)
      · exact jx_throw tl_IO ts_210 d_K_rowOf_49 d_K_rowOf_52 d_K_rowOf_53 d_K_rowOf_55 d_K_rowOf_58 (by omega) (by omega) (by omega) (kx (by rintro ⟨j', i, h1, h2, h3, -⟩; rw [hj] at h1; cases h1; rw [h3] at c37; exact nI_pos (n := i) (by omega) c37))
      · refine jx_iload_n (i := 3) d_K_rowOf_40 rfl rfl ?_
        refine jx_aload d_K_rowOf_41 rfl ?_
        refine jx_getf d_K_rowOf_43 gf_K_204 hk.1 rfl ?_
        refine jx_icmp_lt (tgt := 59) d_K_rowOf_46 (by decide) (fun c46 => ?_) (fun c46 => ?_)
        · obtain ⟨i0, hi0, hxi⟩ := nI_of c37
          subst hxi
          have hi : i0 < (kd j).1 := (nI_ltI (by omega) (by omega)).mp c46
          refine jx_iload d_K_rowOf_59 rfl ?_
          refine jx_if_lt (tgt := 70) d_K_rowOf_61 (by decide) (fun c61 => ?_) (fun c61 => ?_)
          · exact jx_throw tl_IO ts_212 d_K_rowOf_70 d_K_rowOf_73 d_K_rowOf_74 d_K_rowOf_76 d_K_rowOf_79 (by omega) (by omega) (by omega) (kx (by rintro ⟨j', i, h1, h2, h3, h4⟩; exact h4.1 c61))
          · refine jx_iload d_K_rowOf_64 rfl ?_
            refine jx_iconst (v := 1) d_K_rowOf_66 (by decide) ?_
            refine jx_icmp_le (tgt := 80) d_K_rowOf_67 (by decide) (fun c67 => ?_) (fun c67 => ?_)
            · refine jx_iload d_K_rowOf_80 rfl ?_
              refine jx_if_ne (tgt := 95) d_K_rowOf_82 (by decide) (fun c82 => ?_) (fun c82 => ?_)
              · refine jx_aload d_K_rowOf_95 rfl ?_
                refine jx_getf d_K_rowOf_97 gf_K_217 hk.1 rfl ?_
                refine jx_iload_n (i := 3) d_K_rowOf_100 rfl rfl ?_
                refine jx_lald (t0 := 1) d_K_rowOf_101 hk.2.2.1 rfl (vp_in_nI (N := 60) (by omega) (by omega)) ?_
                refine jx_q2 ?_
                exact jx_lret d_K_rowOf_102 rfl (by omega) (by omega) (by
                  have hkk := k j i0 hj hi rfl ⟨c61, c67⟩
                  rw [if_neg c82, ← nI_clamp (n := i0) (by omega)] at hkk
                  exact hkk)
              · refine jx_aload d_K_rowOf_85 rfl ?_
                refine jx_getf d_K_rowOf_87 gf_K_214 hk.1 rfl ?_
                refine jx_iload_n (i := 3) d_K_rowOf_90 rfl rfl ?_
                refine jx_lald (t0 := 1) d_K_rowOf_91 hk.2.1 rfl (vp_in_nI (N := 60) (by omega) (by omega)) ?_
                refine jx_goto (tgt := 102) d_K_rowOf_92 (by decide) ?_
                refine jx_q2 ?_
                exact jx_lret d_K_rowOf_102 rfl (by omega) (by omega) (by
                  have hkk := k j i0 hj hi rfl ⟨c61, c67⟩
                  rw [if_pos c82, ← nI_clamp (n := i0) (by omega)] at hkk
                  exact hkk)
            · exact jx_throw tl_IO ts_212 d_K_rowOf_70 d_K_rowOf_73 d_K_rowOf_74 d_K_rowOf_76 d_K_rowOf_79 (by omega) (by omega) (by omega) (kx (by rintro ⟨j', i, h1, h2, h3, h4⟩; exact c67 h4.2))
        · exact jx_throw tl_IO ts_210 d_K_rowOf_49 d_K_rowOf_52 d_K_rowOf_53 d_K_rowOf_55 d_K_rowOf_58 (by omega) (by omega) (by omega) (kx (by rintro ⟨j', i, h1, h2, h3, -⟩; rw [hj] at h1; cases h1; rw [h3] at c46; exact c46 ((nI_ltI (by omega) (by omega)).mpr h2)))
    · exact absurd (nI_pos' (n := j) (by omega)) c9
theorem c_K_key (hd : 4 < d) (hn : nS ≤ 512) (hK : M a = some (kf_K la wi en pe (a + 1) (a + 2) (a + 3) (a + 5) (a + 7) lr fr gt lt tk lc db fc le)) (hQ : kC_K G M a lo nF kar nK ko nm kd) (hS : M (a + 3) = some (kf_S (a + 4) nS)) (hs : M (a + 4) = some (kf_la 512 sn))
    (k2 : x = 2 → Z (some (.int (kf_b (sp_ix (fun j => sn j == key) nS).isSome))) M sz) (kn : (¬ x < 0 ∧ x ≤ 2) → ¬ x = 2 → sp_ix (fun j => nm j == key) nK = none → Z (some (.int 0)) M sz)
    (k : ∀ j, (¬ x < 0 ∧ x ≤ 2) → ¬ x = 2 → sp_ix (fun j => nm j == key) nK = some j → Z (some (.int (if x = 0 then nI (kd j).1 else (kd j).2.1))) M sz) (kx : ¬ (¬ x < 0 ∧ x ≤ 2) → ∀ sz', sz ≤ sz' → ZX xIA M sz') : jx_Cx md_K_key G d [.ref a, .long key, .int x] M sz 1 6 Z ZX := by
  refine jx_entx rfl (Nat.le_of_ble_eq_true rfl) (l := [some (.ref a), some (.long key), none, some (.int x), none]) (by simp [jx_le, jx_eas, Value.category]) (fun hlt => ?_)
  have hnK := hQ.2.1
  obtain ⟨mo2, hAK⟩ := hQ.1.1
  refine jx_iload_n (i := 3) d_K_key_0 rfl rfl ?_
  refine jx_if_lt (tgt := 9) d_K_key_1 (by decide) (fun c1 => ?_) (fun c1 => ?_)
  · exact jx_throw tl_IA ts_202 d_K_key_9 d_K_key_12 d_K_key_13 d_K_key_15 d_K_key_18 (by omega) (by omega) (by omega) (kx (fun h => h.1 c1))
  · refine jx_iload_n (i := 3) d_K_key_4 rfl rfl ?_
    refine jx_iconst (v := 2) d_K_key_5 (by decide) ?_
    refine jx_icmp_le (tgt := 19) d_K_key_6 (by decide) (fun c6 => ?_) (fun c6 => ?_)
    · refine jx_iload_n (i := 3) d_K_key_19 rfl rfl ?_
      refine jx_iconst (v := 2) d_K_key_20 (by decide) ?_
      refine jx_icmp_ne (tgt := 41) d_K_key_21 (by decide) (fun c21 => ?_) (fun c21 => ?_)
      · refine jx_aload_n (i := 0) d_K_key_41 rfl rfl ?_
        refine jx_lload_n (i := 1) d_K_key_42 rfl rfl ?_
        refine jx_callV1 d_K_key_43 mv_K_190 hK rfl (jx_ok_rm (by omega) (Nat.le_of_ble_eq_true rfl)) (Nat.le_of_ble_eq_true rfl) (jx_rmc (by omega)) (jx_rms (by omega)) (c_K_placeOfKey (d := 3) (by omega) hK hQ.kn ?_)
        dsimp only [Option.toList, List.cons_append, List.nil_append]
        cases hj : sp_ix (fun j => nm j == key) nK with
        | none =>
          refine jx_istore d_K_key_46 (Nat.le_of_ble_eq_true rfl) (jx_e5_4 (by trivial)) ?_
          refine jx_iload d_K_key_48 rfl ?_
          refine jx_if_ge (tgt := 55) d_K_key_50 (by decide) (fun c50 => ?_) (fun c50 => ?_)
          · exact absurd c50 (by simp [kf_ix])
          · refine jx_iconst (v := 0) d_K_key_53 (by decide) ?_
            refine jx_q2 ?_
            exact jx_iret d_K_key_54 rfl (by omega) (by omega) (kn ⟨c1, c6⟩ c21 hj)
        | some j =>
          obtain ⟨hjK, -⟩ := sp_ix_lt hj
          obtain ⟨hk60, hk, -⟩ := hQ.2.2.2.1 j hjK
          have hkk := k j ⟨c1, c6⟩ c21 hj
          refine jx_istore d_K_key_46 (Nat.le_of_ble_eq_true rfl) (jx_e5_4 (by trivial)) ?_
          refine jx_iload d_K_key_48 rfl ?_
          refine jx_if_ge (tgt := 55) d_K_key_50 (by decide) (fun c50 => ?_) (fun c50 => ?_)
          · refine jx_iload_n (i := 3) d_K_key_55 rfl rfl ?_
            refine jx_if_ne (tgt := 77) d_K_key_56 (by decide) (fun c56 => ?_) (fun c56 => ?_)
            · refine jx_aload_n (i := 0) d_K_key_77 rfl rfl ?_
              refine jx_getf d_K_key_78 gf_K_16 hK rfl ?_
              refine jx_iload d_K_key_81 rfl ?_
              refine jx_callV1 d_K_key_83 mv_K_125 hAK rfl (jx_ok_rm (by omega) (Nat.le_of_ble_eq_true rfl)) (Nat.le_of_ble_eq_true rfl) (jx_rmc (by omega)) (jx_rms (by omega)) (c_L_get (d := 2) (by omega) hQ.1 hjK ?_)
              dsimp only [Option.toList, List.cons_append, List.nil_append]
              refine jx_castn d_K_key_86 hk.1 rfl nk_K_196 nx_R_KeyedFolds_KeyRows ?_
              refine jx_getf d_K_key_89 gf_K_207 hk.1 rfl ?_
              refine jx_q2 ?_
              exact jx_iret d_K_key_92 rfl (by omega) (by omega) (by rw [if_neg c56] at hkk; exact hkk)
            · refine jx_aload_n (i := 0) d_K_key_59 rfl rfl ?_
              refine jx_getf d_K_key_60 gf_K_16 hK rfl ?_
              refine jx_iload d_K_key_63 rfl ?_
              refine jx_callV1 d_K_key_65 mv_K_125 hAK rfl (jx_ok_rm (by omega) (Nat.le_of_ble_eq_true rfl)) (Nat.le_of_ble_eq_true rfl) (jx_rmc (by omega)) (jx_rms (by omega)) (c_L_get (d := 2) (by omega) hQ.1 hjK ?_)
              dsimp only [Option.toList, List.cons_append, List.nil_append]
              refine jx_castn d_K_key_68 hk.1 rfl nk_K_196 nx_R_KeyedFolds_KeyRows ?_
              refine jx_getf d_K_key_71 gf_K_204 hk.1 rfl ?_
              refine jx_goto (tgt := 92) d_K_key_74 (by decide) ?_
              refine jx_q2 ?_
              exact jx_iret d_K_key_92 rfl (by omega) (by omega) (by rw [if_pos c56] at hkk; exact hkk)
          · exact absurd (nI_pos' (n := j) (by omega)) c50
      · refine jx_aload_n (i := 0) d_K_key_24 rfl rfl ?_
        refine jx_getf d_K_key_25 gf_K_22 hK rfl ?_
        refine jx_lload_n (i := 1) d_K_key_28 rfl rfl ?_
        refine jx_callV1 d_K_key_29 mv_K_154 hS rfl (jx_ok_rm (by omega) (Nat.le_of_ble_eq_true rfl)) (Nat.le_of_ble_eq_true rfl) (jx_rmc (by omega)) (jx_rms (by omega)) (c_S_has (d := 1) (by omega) hn hS hs ?_)
        dsimp only [Option.toList, List.cons_append, List.nil_append]
        have hkk := k2 c21
        refine jx_if_eq (tgt := 39) d_K_key_32 (by decide) (fun c32 => ?_) (fun c32 => ?_)
        · refine jx_iconst (v := 0) d_K_key_39 (by decide) ?_
          refine jx_q2 ?_
          exact jx_iret d_K_key_40 rfl (by omega) (by omega) (by rw [c32] at hkk; exact hkk)
        · refine jx_iconst (v := 1) d_K_key_35 (by decide) ?_
          refine jx_goto (tgt := 40) d_K_key_36 (by decide) ?_
          refine jx_q2 ?_
          exact jx_iret d_K_key_40 rfl (by omega) (by omega) (by rw [kf_b_ne0 c32] at hkk; exact hkk)
    · exact jx_throw tl_IA ts_202 d_K_key_9 d_K_key_12 d_K_key_13 d_K_key_15 d_K_key_18 (by omega) (by omega) (by omega) (kx (fun h => c6 h.2))
end CP2
