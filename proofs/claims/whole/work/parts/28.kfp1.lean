/-! PART 28: KeyedFolds, the public methods that read -/
theorem kf_b_ne {b : Bool} (h : kf_b b = 0) : b = false := (kf_b_eq0 b).mp h
theorem nI_ofI {x : Int32} {n : Nat} (h : 0 ≤ x.toInt ∧ x.toInt < n) : ∃ j : Nat, j < n ∧ x = nI j := by
  have h1 := Int32.toInt_lt x
  refine ⟨x.toInt.toNat, by omega, Int32.toInt_inj.mp ?_⟩
  rw [nI_toInt (by omega)]
  omega
theorem kf_ix_neg {r : Option Nat} {n : Nat} (hr : ∀ i, r = some i → i < n) (hn : n < 2 ^ 31) : kf_ix r < 0 ↔ r = none := by
  cases r with
  | none => simp [kf_ix]
  | some i =>
    have := hr i rfl
    simp only [kf_ix, reduceCtorEq, iff_false]
    exact nI_pos (by omega)
abbrev xIA : String := "java/lang/IllegalArgumentException"
abbrev xIS : String := "java/lang/IllegalStateException"
abbrev xIO : String := "java/lang/IndexOutOfBoundsException"
section CP1
variable {G : jx_G} {d a lo far kar nF nK sz nS nA nO : Nat} {la wi en pe lr fr tk lc db fc le x x2 : Int32} {gt lt t v key : Int64} {fo ko : Nat → Nat} {nm : Nat → Int64} {kd : Nat → sp_key} {fd : sp_fd} {fw : Nat → Nat → Int64} {sn ac oc : Nat → Int64} {M : jx_H} {Z : Option Value → jx_H → Nat → Prop} {ZX : String → jx_H → Nat → Prop}
theorem c_K_watermark (hd : 4 < d) (hK : M a = some (kf_K la wi en pe (a + 1) (a + 2) (a + 3) (a + 5) (a + 7) lr fr gt lt tk lc db fc le)) (k : sp_wm gt = true → Z (some (.long (gt - la.toInt64))) M sz) (kx : sp_wm gt = false → ∀ sz', sz ≤ sz' → ZX xIS M sz') : jx_Cx md_K_watermark G d [.ref a] M sz 1 6 Z ZX := by
  refine jx_entx rfl (Nat.le_of_ble_eq_true rfl) (l := [some (.ref a)]) (by simp [jx_le, jx_eas, Value.category]) (fun hlt => ?_)
  refine jx_aload_n (i := 0) d_K_watermark_0 rfl rfl ?_
  refine jx_callV0 d_K_watermark_1 mv_K_235 hK rfl (jx_ok_rm (by omega) (Nat.le_of_ble_eq_true rfl)) (Nat.le_of_ble_eq_true rfl) (jx_rmc (by omega)) (jx_rms (by omega)) (c_K_hasWatermark (d := 0) hK ?_)
  dsimp only [Option.toList, List.cons_append, List.nil_append]
  refine jx_if_ne (tgt := 17) d_K_watermark_4 (by decide) (fun c4 => ?_) (fun c4 => ?_)
  · refine jx_aload_n (i := 0) d_K_watermark_17 rfl rfl ?_
    refine jx_callV0 d_K_watermark_18 mv_K_240 hK rfl (jx_ok_rm (by omega) (Nat.le_of_ble_eq_true rfl)) (Nat.le_of_ble_eq_true rfl) (jx_rmc (by omega)) (jx_rms (by omega)) (c_K_watermarkTime (d := 0) hK ?_)
    dsimp only [Option.toList, List.cons_append, List.nil_append]
    refine jx_q2 ?_
    exact jx_lret d_K_watermark_21 rfl (by omega) (by omega) (k (kf_b_ne0 c4))
  · exact jx_throw tl_IS ts_238 d_K_watermark_7 d_K_watermark_10 d_K_watermark_11 d_K_watermark_13 d_K_watermark_16 (by omega) (by omega) (by omega) (kx (kf_b_ne c4))
theorem c_K_resume (hd : 4 < d) (hn : nS ≤ 512) (hK : M a = some (kf_K la wi en pe (a + 1) (a + 2) (a + 3) (a + 5) (a + 7) lr fr gt lt tk lc db fc le)) (hS : M (a + 3) = some (kf_S (a + 4) nS)) (hs : M (a + 4) = some (kf_la 512 sn))
    (k : ∀ i, sp_ix (fun j => sn j == key) nS = some i → Z none (jx_up (jx_up M (a + 3) (kf_S (a + 4) (nS - 1))) (a + 4) (kf_la 512 (vp_updL sn i (sn (nS - 1))))) sz) (kx : sp_ix (fun j => sn j == key) nS = none → ∀ sz', sz ≤ sz' → ZX xIS M sz') : jx_Cx md_K_resume G d [.ref a, .long key] M sz 1 6 Z ZX := by
  refine jx_entx rfl (Nat.le_of_ble_eq_true rfl) (l := [some (.ref a), some (.long key), none]) (by simp [jx_le, jx_eas, Value.category]) (fun hlt => ?_)
  refine jx_aload_n (i := 0) d_K_resume_0 rfl rfl ?_
  refine jx_getf d_K_resume_1 gf_K_22 hK rfl ?_
  refine jx_lload_n (i := 1) d_K_resume_4 rfl rfl ?_
  refine jx_callV1 d_K_resume_5 mv_K_154 hS rfl (jx_ok_rm (by omega) (Nat.le_of_ble_eq_true rfl)) (Nat.le_of_ble_eq_true rfl) (jx_rmc (by omega)) (jx_rms (by omega)) (c_S_has (d := 1) (by omega) hn hS hs ?_)
  dsimp only [Option.toList, List.cons_append, List.nil_append]
  refine jx_if_ne (tgt := 21) d_K_resume_8 (by decide) (fun c8 => ?_) (fun c8 => ?_)
  · obtain ⟨i, hi⟩ := Option.isSome_iff_exists.mp (kf_b_ne0 c8)
    refine jx_aload_n (i := 0) d_K_resume_21 rfl rfl ?_
    refine jx_getf d_K_resume_22 gf_K_22 hK rfl ?_
    refine jx_lload_n (i := 1) d_K_resume_25 rfl rfl ?_
    refine jx_callV1 d_K_resume_26 mv_K_187 hS rfl (jx_ok_rm (by omega) (Nat.le_of_ble_eq_true rfl)) (Nat.le_of_ble_eq_true rfl) (jx_rmc (by omega)) (jx_rms (by omega)) (c_S_remove (d := 1) (by omega) hn hS hs (by omega) hi ?_)
    dsimp only [Option.toList, List.cons_append, List.nil_append]
    refine jx_q2 ?_
    exact jx_vret d_K_resume_29 rfl (by omega) (by omega) (k i hi)
  · exact jx_throw tl_IS ts_185 d_K_resume_11 d_K_resume_14 d_K_resume_15 d_K_resume_17 d_K_resume_20 (by omega) (by omega) (by omega) (kx (by simpa using kf_b_ne c8))
theorem c_K_aside (hd : 4 < d) (hn : nA < 2 ^ 31) (hK : M a = some (kf_K la wi en pe (a + 1) (a + 2) (a + 3) (a + 5) (a + 7) lr fr gt lt tk lc db fc le)) (hT : M (a + 5) = some (kf_T nA 100 4 (a + 6))) (hC : M (a + 6) = some (kf_la 400 ac))
    (k : ∀ i j : Nat, i < nA → i < 100 → j < 4 → x = nI i → x2 = nI j → Z (some (.long (ac (i * 4 + j)))) M sz) (kx : ¬ ((0 ≤ x.toInt ∧ x.toInt < nA ∧ x.toInt < 100) ∧ 0 ≤ x2.toInt ∧ x2.toInt < 4) → ∀ sz', sz ≤ sz' → ZX xIO M sz') : jx_Cx md_K_aside G d [.ref a, .int x, .int x2] M sz 1 6 Z ZX := by
  refine jx_entx rfl (Nat.le_of_ble_eq_true rfl) (l := [some (.ref a), some (.int x), some (.int x2)]) (by simp [jx_le, jx_eas, Value.category]) (fun hlt => ?_)
  refine jx_aload_n (i := 0) d_K_aside_0 rfl rfl ?_
  refine jx_getf d_K_aside_1 gf_K_31 hK rfl ?_
  refine jx_iload_n (i := 1) d_K_aside_4 rfl rfl ?_
  refine jx_callV1 d_K_aside_5 mv_K_220 hT rfl (jx_ok_rm (by omega) (Nat.le_of_ble_eq_true rfl)) (Nat.le_of_ble_eq_true rfl) (jx_rmc (by omega)) (jx_rms (by omega)) (c_T_keeps (d := 0) hn (by omega) hT ?_)
  dsimp only [Option.toList, List.cons_append, List.nil_append]
  have e0 : (0 : Int32).toInt = 0 := by decide
  have e4 : (4 : Int32).toInt = 4 := by decide
  refine jx_if_ne (tgt := 21) d_K_aside_8 (by decide) (fun c8 => ?_) (fun c8 => ?_)
  · have h1 := of_decide_eq_true (kf_b_ne0 c8)
    refine jx_iload_n (i := 2) d_K_aside_21 rfl rfl ?_
    refine jx_if_lt (tgt := 30) d_K_aside_22 (by decide) (fun c22 => ?_) (fun c22 => ?_)
    · exact jx_throw tl_IO ts_225 d_K_aside_30 d_K_aside_33 d_K_aside_34 d_K_aside_36 d_K_aside_39 (by omega) (by omega) (by omega) (kx (by rw [Int32.lt_iff_toInt_lt, e0] at c22; omega))
    · refine jx_iload_n (i := 2) d_K_aside_25 rfl rfl ?_
      refine jx_iconst (v := 4) d_K_aside_26 (by decide) ?_
      refine jx_icmp_lt (tgt := 40) d_K_aside_27 (by decide) (fun c27 => ?_) (fun c27 => ?_)
      · rw [Int32.lt_iff_toInt_lt, e0] at c22
        rw [Int32.lt_iff_toInt_lt, e4] at c27
        obtain ⟨i, hi, hxi⟩ := nI_ofI (x := x) (n := 100) (by omega)
        obtain ⟨j, hj, hxj⟩ := nI_ofI (x := x2) (n := 4) (by omega)
        have hiA : i < nA := by
          have := h1.2.1
          rw [hxi, nI_toInt (by omega)] at this
          omega
        have hk := k i j hiA hi hj hxi hxj
        subst hxi hxj
        refine jx_aload_n (i := 0) d_K_aside_40 rfl rfl ?_
        refine jx_getf d_K_aside_41 gf_K_31 hK rfl ?_
        refine jx_iload_n (i := 1) d_K_aside_44 rfl rfl ?_
        refine jx_iload_n (i := 2) d_K_aside_45 rfl rfl ?_
        refine jx_callV2 d_K_aside_46 mv_K_227 hT rfl (jx_ok_rm (by omega) (Nat.le_of_ble_eq_true rfl)) (Nat.le_of_ble_eq_true rfl) (jx_rmc (by omega)) (jx_rms (by omega)) (c_T_cell (d := 0) (i := i) (j := j) (li := 100) (wi := 4) (by omega) (by omega) hT hC ?_)
        dsimp only [Option.toList, List.cons_append, List.nil_append]
        refine jx_q2 ?_
        exact jx_lret d_K_aside_49 rfl (by omega) (by omega) hk
      · exact jx_throw tl_IO ts_225 d_K_aside_30 d_K_aside_33 d_K_aside_34 d_K_aside_36 d_K_aside_39 (by omega) (by omega) (by omega) (kx (by rw [Int32.lt_iff_toInt_lt, e4] at c27; omega))
  · exact jx_throw tl_IO ts_223 d_K_aside_11 d_K_aside_14 d_K_aside_15 d_K_aside_17 d_K_aside_20 (by omega) (by omega) (by omega) (kx (by have := of_decide_eq_false (kf_b_ne c8); omega))
theorem c_K_output (hd : 4 < d) (hn : nO < 2 ^ 31) (hK : M a = some (kf_K la wi en pe (a + 1) (a + 2) (a + 3) (a + 5) (a + 7) lr fr gt lt tk lc db fc le)) (hT : M (a + 7) = some (kf_T nO 300 8 (a + 8))) (hC : M (a + 8) = some (kf_la 2400 oc)) (hF : kC_F G M a lo far nF fo fd fw)
    (k : ∀ i j : Nat, i < nO → i < 300 → j < 2 + nF → x = nI i → x2 = nI j → Z (some (.long (oc (i * 8 + j)))) M sz) (kx : ¬ ((0 ≤ x.toInt ∧ x.toInt < nO ∧ x.toInt < 300) ∧ 0 ≤ x2.toInt ∧ x2.toInt < (2 + nF : Nat)) → ∀ sz', sz ≤ sz' → ZX xIO M sz') : jx_Cx md_K_output G d [.ref a, .int x, .int x2] M sz 1 6 Z ZX := by
  refine jx_entx rfl (Nat.le_of_ble_eq_true rfl) (l := [some (.ref a), some (.int x), some (.int x2)]) (by simp [jx_le, jx_eas, Value.category]) (fun hlt => ?_)
  refine jx_aload_n (i := 0) d_K_output_0 rfl rfl ?_
  refine jx_getf d_K_output_1 gf_K_35 hK rfl ?_
  refine jx_iload_n (i := 1) d_K_output_4 rfl rfl ?_
  refine jx_callV1 d_K_output_5 mv_K_220 hT rfl (jx_ok_rm (by omega) (Nat.le_of_ble_eq_true rfl)) (Nat.le_of_ble_eq_true rfl) (jx_rmc (by omega)) (jx_rms (by omega)) (c_T_keeps (d := 0) hn (by omega) hT ?_)
  dsimp only [Option.toList, List.cons_append, List.nil_append]
  have e0 : (0 : Int32).toInt = 0 := by decide
  have hnF := hF.1.2.1
  obtain ⟨mo, hA⟩ := hF.1.1.1
  have e4 : ((2 : Int32) + nI nF).toInt = (2 + nF : Nat) := by
    rw [show (2 : Int32) = nI 2 from rfl, nI_add, nI_toInt (by omega)]
  refine jx_if_ne (tgt := 21) d_K_output_8 (by decide) (fun c8 => ?_) (fun c8 => ?_)
  · have h1 := of_decide_eq_true (kf_b_ne0 c8)
    refine jx_iload_n (i := 2) d_K_output_21 rfl rfl ?_
    refine jx_if_lt (tgt := 38) d_K_output_22 (by decide) (fun c22 => ?_) (fun c22 => ?_)
    · exact jx_throw tl_IO ts_233 d_K_output_38 d_K_output_41 d_K_output_42 d_K_output_44 d_K_output_47 (by omega) (by omega) (by omega) (kx (by rw [Int32.lt_iff_toInt_lt, e0] at c22; omega))
    · refine jx_iload_n (i := 2) d_K_output_25 rfl rfl ?_
      refine jx_iconst (v := 2) d_K_output_26 (by decide) ?_
      refine jx_aload_n (i := 0) d_K_output_27 rfl rfl ?_
      refine jx_getf d_K_output_28 gf_K_10 hK rfl ?_
      refine jx_callV0 d_K_output_31 mv_K_92 hA rfl (jx_ok_rm (by omega) (Nat.le_of_ble_eq_true rfl)) (Nat.le_of_ble_eq_true rfl) (jx_rmc (by omega)) (jx_rms (by omega)) (c_L_size (d := 0) hF.1.1 ?_)
      dsimp only [Option.toList, List.cons_append, List.nil_append]
      refine jx_iadd d_K_output_34 ?_
      refine jx_icmp_lt (tgt := 48) d_K_output_35 (by decide) (fun c35 => ?_) (fun c35 => ?_)
      · rw [Int32.lt_iff_toInt_lt, e0] at c22
        rw [Int32.lt_iff_toInt_lt, e4] at c35
        obtain ⟨i, hi, hxi⟩ := nI_ofI (x := x) (n := 300) (by omega)
        obtain ⟨j, hj, hxj⟩ := nI_ofI (x := x2) (n := 2 + nF) (by omega)
        have hiA : i < nO := by
          have := h1.2.1
          rw [hxi, nI_toInt (by omega)] at this
          omega
        have hk := k i j hiA hi hj hxi hxj
        subst hxi hxj
        refine jx_aload_n (i := 0) d_K_output_48 rfl rfl ?_
        refine jx_getf d_K_output_49 gf_K_35 hK rfl ?_
        refine jx_iload_n (i := 1) d_K_output_52 rfl rfl ?_
        refine jx_iload_n (i := 2) d_K_output_53 rfl rfl ?_
        refine jx_callV2 d_K_output_54 mv_K_227 hT rfl (jx_ok_rm (by omega) (Nat.le_of_ble_eq_true rfl)) (Nat.le_of_ble_eq_true rfl) (jx_rmc (by omega)) (jx_rms (by omega)) (c_T_cell (d := 0) (i := i) (j := j) (li := 300) (wi := 8) (by omega) (by omega) hT hC ?_)
        dsimp only [Option.toList, List.cons_append, List.nil_append]
        refine jx_q2 ?_
        exact jx_lret d_K_output_57 rfl (by omega) (by omega) hk
      · exact jx_throw tl_IO ts_233 d_K_output_38 d_K_output_41 d_K_output_42 d_K_output_44 d_K_output_47 (by omega) (by omega) (by omega) (kx (by rw [Int32.lt_iff_toInt_lt, e4] at c35; omega))
  · exact jx_throw tl_IO ts_231 d_K_output_11 d_K_output_14 d_K_output_15 d_K_output_17 d_K_output_20 (by omega) (by omega) (by omega) (kx (by have := of_decide_eq_false (kf_b_ne c8); omega))
end CP1
