/-! PART 30: KeyedFolds: joined, failsAt, fold -/
theorem va_up_s {α : Type} (f : Nat → α) (i : Nat) (v : α) : va_up f i v i = v := by simp [va_up]
theorem va_up_n {α : Type} (f : Nat → α) {i j : Nat} (v : α) (h : j ≠ i) : va_up f i v j = f j := by simp [va_up, h]
/-- joined(f): every key's state is that folded backwards -/
def sp_jn (kn : Nat) (st p : Int64) (f : Nat) (kd : Nat → sp_key) (nK : Nat) : Bool := !sp_mj (nI kn) || !sp_ex (fun j => !(sp_bw kn p (kd j).2.2.1 (kd j).2.2.2.1 (kd j).1 st == (kd j).2.2.2.2 f)) nK
section CP3
variable {G : jx_G} {d a lo far kar nF nK sz nS nA nO : Nat} {la wi en pe lr fr tk lc db fc le x x2 : Int32} {gt lt t v key : Int64} {fo ko : Nat → Nat} {nm : Nat → Int64} {kd : Nat → sp_key} {fd : sp_fd} {fw : Nat → Nat → Int64} {sn ac oc : Nat → Int64} {M : jx_H} {Z : Option Value → jx_H → Nat → Prop} {ZX : String → jx_H → Nat → Prop}
theorem c_K_joined (hd : 4 < d) (hK : M a = some (kf_K la wi en pe (a + 1) (a + 2) (a + 3) (a + 5) (a + 7) lr fr gt lt tk lc db fc le)) (hF : kC_F G M a lo far nF fo fd fw) (hQ : kC_K G M a lo nF kar nK ko nm kd)
    (k : ∀ f, f < nF → x = nI f → Z (some (.int (kf_b (sp_jn (fd f).1 (fd f).2.1 (fd f).2.2.1 f kd nK)))) M sz) (kx : ¬ (0 ≤ x.toInt ∧ x.toInt < nF) → ∀ sz', sz ≤ sz' → ZX xIO M sz') : jx_Cx md_K_joined G d [.ref a, .int x] M sz 1 6 Z ZX := by
  refine jx_entx rfl (Nat.le_of_ble_eq_true rfl) (l := [some (.ref a), some (.int x), none]) (by simp [jx_le, jx_eas, Value.category]) (fun hlt => ?_)
  have hnF := hF.1.2.1
  have hnK := hQ.2.1
  obtain ⟨mo, hAF⟩ := hF.1.1.1
  obtain ⟨mo2, hAK⟩ := hQ.1.1
  refine jx_aload_n (i := 0) d_K_joined_0 rfl rfl ?_
  refine jx_iload_n (i := 1) d_K_joined_1 rfl rfl ?_
  refine jx_callV1 d_K_joined_2 mv_K_116 hK rfl (jx_ok_rm (by omega) (Nat.le_of_ble_eq_true rfl)) (Nat.le_of_ble_eq_true rfl) (jx_rmc (by omega)) (jx_rms (by omega)) (c_K_isFold (d := 1) (by omega) hK hF.1.1 hnF ?_)
  dsimp only [Option.toList, List.cons_append, List.nil_append]
  refine jx_if_ne (tgt := 18) d_K_joined_5 (by decide) (fun c5 => ?_) (fun c5 => ?_)
  · have h1 := of_decide_eq_true (kf_b_ne0 c5)
    obtain ⟨f, hf, hxf⟩ := nI_ofI h1
    have hkk := k f hf hxf
    subst hxf
    obtain ⟨hf8, hfo⟩ := hF.1.2.2 f hf
    refine jx_aload_n (i := 0) d_K_joined_18 rfl rfl ?_
    refine jx_getf d_K_joined_19 gf_K_10 hK rfl ?_
    refine jx_iload_n (i := 1) d_K_joined_22 rfl rfl ?_
    refine jx_callV1 d_K_joined_23 mv_K_125 hAF rfl (jx_ok_rm (by omega) (Nat.le_of_ble_eq_true rfl)) (Nat.le_of_ble_eq_true rfl) (jx_rmc (by omega)) (jx_rms (by omega)) (c_L_get (d := 2) (by omega) hF.1.1 hf ?_)
    dsimp only [Option.toList, List.cons_append, List.nil_append]
    refine jx_castn d_K_joined_26 hfo rfl nk_K_107 nx_F_KeyedFolds_Fold ?_
    refine jx_callV0 d_K_joined_29 mv_K_252 hfo rfl (jx_ok_rm (by omega) (Nat.le_of_ble_eq_true rfl)) (Nat.le_of_ble_eq_true rfl) (jx_rmc (by omega)) (jx_rms (by omega)) (c_F_mayBeJoined (d := 1) (by omega) hfo ?_)
    dsimp only [Option.toList, List.cons_append, List.nil_append]
    refine jx_if_ne (tgt := 37) d_K_joined_32 (by decide) (fun c32 => ?_) (fun c32 => ?_)
    · have hmj := kf_b_ne0 c32
      have loop : ∀ (j i : Nat), i + j = nK → sp_ex (fun j => !(sp_bw (fd f).1 (fd f).2.2.1 (kd j).2.2.1 (kd j).2.2.2.1 (kd j).1 (fd f).2.1 == (kd j).2.2.2.2 f)) i = false → jx_V md_K_joined [] G (jx_rm d 1 6) (jx_Q2 G 1 6 Z ZX) 39 [some (.ref a), some (.int (nI f)), some (.int (nI i))] [] M sz 0 0 := by
        intro j
        induction j with
        | zero =>
          intro i hi hP
          refine jx_iload_n (i := 2) d_K_joined_39 rfl rfl ?_
          refine jx_aload_n (i := 0) d_K_joined_40 rfl rfl ?_
          refine jx_getf d_K_joined_41 gf_K_16 hK rfl ?_
          refine jx_callV0 d_K_joined_44 mv_K_92 hAK rfl (jx_ok_rm (by omega) (Nat.le_of_ble_eq_true rfl)) (Nat.le_of_ble_eq_true rfl) (jx_rmc (by omega)) (jx_rms (by omega)) (c_L_size (d := 0) hQ.1 ?_)
          dsimp only [Option.toList, List.cons_append, List.nil_append]
          refine jx_icmp_ge (tgt := 76) d_K_joined_47 (by decide) (fun c47 => ?_) (fun c47 => ?_)
          · refine jx_iconst (v := 1) d_K_joined_76 (by decide) ?_
            refine jx_q2 ?_
            exact jx_zret d_K_joined_77 rfl (by first | exact Or.inl rfl | exact Or.inr rfl) (by omega) (by omega) (by
              rw [show nK = i by omega] at hkk
              simpa [sp_jn, hmj, hP, kf_b] using hkk)
          · exact absurd ((nI_leI (by omega) (by omega)).mpr (by omega)) c47
        | succ j ih =>
          intro i hi hP
          obtain ⟨hk60, hk, -⟩ := hQ.2.2.2.1 i (by omega)
          refine jx_iload_n (i := 2) d_K_joined_39 rfl rfl ?_
          refine jx_aload_n (i := 0) d_K_joined_40 rfl rfl ?_
          refine jx_getf d_K_joined_41 gf_K_16 hK rfl ?_
          refine jx_callV0 d_K_joined_44 mv_K_92 hAK rfl (jx_ok_rm (by omega) (Nat.le_of_ble_eq_true rfl)) (Nat.le_of_ble_eq_true rfl) (jx_rmc (by omega)) (jx_rms (by omega)) (c_L_size (d := 0) hQ.1 ?_)
          dsimp only [Option.toList, List.cons_append, List.nil_append]
          refine jx_icmp_ge (tgt := 76) d_K_joined_47 (by decide) (fun c47 => ?_) (fun c47 => ?_)
          · exact absurd ((nI_leI (by omega) (by omega)).mp c47) (by omega)
          · refine jx_aload_n (i := 0) d_K_joined_50 rfl rfl ?_
            refine jx_getf d_K_joined_51 gf_K_16 hK rfl ?_
            refine jx_iload_n (i := 2) d_K_joined_54 rfl rfl ?_
            refine jx_callV1 d_K_joined_55 mv_K_125 hAK rfl (jx_ok_rm (by omega) (Nat.le_of_ble_eq_true rfl)) (Nat.le_of_ble_eq_true rfl) (jx_rmc (by omega)) (jx_rms (by omega)) (c_L_get (d := 2) (by omega) hQ.1 (by omega) ?_)
            dsimp only [Option.toList, List.cons_append, List.nil_append]
            refine jx_castn d_K_joined_58 hk.1 rfl nk_K_196 nx_R_KeyedFolds_KeyRows ?_
            refine jx_iload_n (i := 1) d_K_joined_61 rfl rfl ?_
            refine jx_callV1 d_K_joined_62 mv_K_255 hk.1 rfl (jx_ok_rm (by omega) (Nat.le_of_ble_eq_true rfl)) (Nat.le_of_ble_eq_true rfl) (jx_rmc (by omega)) (jx_rms (by omega)) (c_R_back (d := 3) (by omega) hk60 hf hk hF.1 ?_)
            dsimp only [Option.toList, List.cons_append, List.nil_append]
            refine jx_if_ne (tgt := 70) d_K_joined_65 (by decide) (fun c65 => ?_) (fun c65 => ?_)
            · refine jx_iinc d_K_joined_70 rfl (Nat.le_of_ble_eq_true rfl) (jx_e3_2 (by trivial)) ?_
              refine jx_goto (tgt := 39) d_K_joined_73 (by decide) ?_
              rw [nI_1]
              refine ih (i + 1) (by omega) ?_
              have := kf_b_ne0 c65
              simp only [sp_ex, hP, Bool.false_or]
              simpa using this
            · refine jx_iconst (v := 0) d_K_joined_68 (by decide) ?_
              refine jx_q2 ?_
              exact jx_zret d_K_joined_69 rfl (by first | exact Or.inl rfl | exact Or.inr rfl) (by omega) (by omega) (by
                have := kf_b_ne c65
                have h9 : sp_ex (fun j => !(sp_bw (fd f).1 (fd f).2.2.1 (kd j).2.2.1 (kd j).2.2.2.1 (kd j).1 (fd f).2.1 == (kd j).2.2.2.2 f)) nK = true := sp_ex_at (i := i) (by simpa using this) (by omega)
                simpa [sp_jn, hmj, h9, kf_b] using hkk)
      refine jx_iconst (v := 0) d_K_joined_37 (by decide) ?_
      refine jx_istore_n (i := 2) d_K_joined_38 rfl (Nat.le_of_ble_eq_true rfl) (jx_e3_2 (by trivial)) ?_
      exact loop nK 0 (by omega) rfl
    · refine jx_iconst (v := 1) d_K_joined_35 (by decide) ?_
      refine jx_q2 ?_
      exact jx_zret d_K_joined_36 rfl (by first | exact Or.inl rfl | exact Or.inr rfl) (by omega) (by omega) (by simpa [sp_jn, kf_b_ne c32, kf_b] using hkk)
  · exact jx_throw tl_IO ts_122 d_K_joined_8 d_K_joined_11 d_K_joined_12 d_K_joined_14 d_K_joined_17 (by omega) (by omega) (by omega) (kx (of_decide_eq_false (kf_b_ne c5)))
theorem c_K_failsAt (hd : 4 < d) (hK : M a = some (kf_K la wi en pe (a + 1) (a + 2) (a + 3) (a + 5) (a + 7) lr fr gt lt tk lc db fc le)) (hF : kC_F G M a lo far nF fo fd fw)
    (k : ∀ f, f < nF → x = nI f → (fd f).2.2.2.1 < 4 → sp_ff fd fw v f = false → ∀ M', kC_F G M' a lo far nF fo (va_up fd f ((fd f).1, (fd f).2.1, (fd f).2.2.1, (fd f).2.2.2.1 + 1, (fd f).2.2.2.2)) (va_up fw f (vp_updL (fw f) (fd f).2.2.2.1 v)) → (∀ q, ¬ (a + 24 ≤ q ∧ q < lo) → M' q = M q) → Z (some (.int (nI ((fd f).2.2.2.1 + 1)))) M' sz)
    (k1 : ¬ (0 ≤ x.toInt ∧ x.toInt < nF) → ∀ sz', sz ≤ sz' → ZX xIO M sz') (k2 : ∀ f, f < nF → x = nI f → ¬ ((fd f).2.2.2.1 < 4 ∧ sp_ff fd fw v f = false) → ∀ sz', sz ≤ sz' → ZX xIS M sz') : jx_Cx md_K_failsAt G d [.ref a, .int x, .long v] M sz 1 6 Z ZX := by
  refine jx_entx rfl (Nat.le_of_ble_eq_true rfl) (l := [some (.ref a), some (.int x), some (.long v), none, none]) (by simp [jx_le, jx_eas, Value.category]) (fun hlt => ?_)
  have hnF := hF.1.2.1
  obtain ⟨mo, hAF⟩ := hF.1.1.1
  refine jx_aload_n (i := 0) d_K_failsAt_0 rfl rfl ?_
  refine jx_iload_n (i := 1) d_K_failsAt_1 rfl rfl ?_
  refine jx_callV1 d_K_failsAt_2 mv_K_116 hK rfl (jx_ok_rm (by omega) (Nat.le_of_ble_eq_true rfl)) (Nat.le_of_ble_eq_true rfl) (jx_rmc (by omega)) (jx_rms (by omega)) (c_K_isFold (d := 1) (by omega) hK hF.1.1 hnF ?_)
  dsimp only [Option.toList, List.cons_append, List.nil_append]
  refine jx_if_ne (tgt := 18) d_K_failsAt_5 (by decide) (fun c5 => ?_) (fun c5 => ?_)
  · have h1 := of_decide_eq_true (kf_b_ne0 c5)
    obtain ⟨f, hf, hxf⟩ := nI_ofI h1
    subst hxf
    obtain ⟨hf8, hfo⟩ := hF.1.2.2 f hf
    obtain ⟨hf4, hfa⟩ := hF.2.1 f hf
    refine jx_aload_n (i := 0) d_K_failsAt_18 rfl rfl ?_
    refine jx_getf d_K_failsAt_19 gf_K_10 hK rfl ?_
    refine jx_iload_n (i := 1) d_K_failsAt_22 rfl rfl ?_
    refine jx_callV1 d_K_failsAt_23 mv_K_125 hAF rfl (jx_ok_rm (by omega) (Nat.le_of_ble_eq_true rfl)) (Nat.le_of_ble_eq_true rfl) (jx_rmc (by omega)) (jx_rms (by omega)) (c_L_get (d := 2) (by omega) hF.1.1 hf ?_)
    dsimp only [Option.toList, List.cons_append, List.nil_append]
    refine jx_castn d_K_failsAt_26 hfo rfl nk_K_107 nx_F_KeyedFolds_Fold ?_
    refine jx_astore d_K_failsAt_29 (Nat.le_of_ble_eq_true rfl) (jx_e5_4 (by trivial)) ?_
    refine jx_aload d_K_failsAt_31 rfl ?_
    refine jx_getf d_K_failsAt_33 gf_K_129 hfo rfl ?_
    refine jx_iconst (v := 4) d_K_failsAt_36 (by decide) ?_
    refine jx_icmp_lt (tgt := 50) d_K_failsAt_37 (by decide) (fun c37 => ?_) (fun c37 => ?_)
    · have hc4 : (fd f).2.2.2.1 < 4 := (nI_ltI (b := 4) (by omega) (by omega)).mp c37
      refine jx_aload d_K_failsAt_50 rfl ?_
      refine jx_lload_n (i := 2) d_K_failsAt_52 rfl rfl ?_
      refine jx_callV1 d_K_failsAt_53 mv_K_134 hfo rfl (jx_ok_rm (by omega) (Nat.le_of_ble_eq_true rfl)) (Nat.le_of_ble_eq_true rfl) (jx_rmc (by omega)) (jx_rms (by omega)) (c_F_isFailing (d := 0) (by omega) hfo hfa ?_)
      dsimp only [Option.toList, List.cons_append, List.nil_append]
      refine jx_if_eq (tgt := 69) d_K_failsAt_56 (by decide) (fun c56 => ?_) (fun c56 => ?_)
      · refine jx_aload d_K_failsAt_69 rfl ?_
        refine jx_lload_n (i := 2) d_K_failsAt_71 rfl rfl ?_
        obtain ⟨b1, b2, b3⟩ := hF.2.2.2.2.1 f hf
        refine jx_callV1 d_K_failsAt_72 mv_K_140 hfo rfl (jx_ok_rm (by omega) (Nat.le_of_ble_eq_true rfl)) (Nat.le_of_ble_eq_true rfl) (jx_rmc (by omega)) (jx_rms (by omega)) (c_F_addFailing (d := 0) hc4 hfo hfa (by omega) ?_)
        dsimp only [Option.toList, List.cons_append, List.nil_append]
        refine jx_aload d_K_failsAt_75 rfl ?_
        refine jx_getf d_K_failsAt_77 gf_K_129 (jx_up_s _ _ _) rfl ?_
        refine jx_q2 ?_
        refine jx_iret d_K_failsAt_80 rfl (by omega) (by omega) ?_
        refine k f hf rfl hc4 (kf_b_ne c56) _ ?_ ?_
        · have hsep := hF.2.2.2.2.2
          have hne : ∀ i, i < nF → i ≠ f → fo i ≠ fo f ∧ fo i ≠ fo f + 1 ∧ fo i + 1 ≠ fo f := by
            intro i hi hif
            rcases Nat.lt_or_ge i f with h | h
            · have := hsep i f h hf
              omega
            · have := hsep f i (by omega) hi
              omega
          have hfar : far ≠ fo f ∧ far ≠ fo f + 1 ∨ nF = 0 := by
            by_cases h0 : nF = 0
            · exact Or.inr h0
            · refine Or.inl ?_
              obtain ⟨N, g, e1, -⟩ := hF.1.1.2.resolve_left (by omega)
              constructor
              · intro h; rw [h, hfo] at e1; cases e1
              · intro h; rw [b3] at hfa; rw [h, hfa] at e1; cases e1
          rw [b3]
          refine ⟨⟨⟨⟨mo, ?_⟩, ?_⟩, hnF, fun i hi => ?_⟩, fun i hi => ?_, hF.2.2.1, hF.2.2.2.1, fun i hi => ?_, hsep⟩
          · rw [jx_up_n _ _ (by omega), jx_up_n _ _ (by omega)]
            exact hAF
          · rcases hF.1.1.2 with h | ⟨N, g, e1, e2⟩
            · exact Or.inl h
            · refine Or.inr ⟨N, g, ?_, e2⟩
              rcases hfar with h | h
              · rw [jx_up_n _ _ (by omega), jx_up_n _ _ (by omega)]
                exact e1
              · omega
          · by_cases hif : i = f
            · subst hif
              rw [va_up_s, jx_up_s]
              exact ⟨hf8, rfl⟩
            · have := hne i hi hif
              rw [va_up_n _ _ hif, jx_up_n _ _ this.1, jx_up_n _ _ this.2.1]
              exact hF.1.2.2 i hi
          · by_cases hif : i = f
            · subst hif
              rw [va_up_s, va_up_s]
              refine ⟨by show (fd i).2.2.2.1 + 1 ≤ 4; omega, ?_⟩
              show jx_up (jx_up M (fo i + 1) _) (fo i) _ (fo i + 1) = _
              rw [jx_up_n _ _ (by omega), jx_up_s]
            · have h9 := hne i hi hif
              obtain ⟨q1, q2, q3⟩ := hF.2.2.2.2.1 i hi
              rw [va_up_n _ _ hif, va_up_n _ _ hif]
              obtain ⟨w1, w2⟩ := hF.2.1 i hi
              refine ⟨w1, ?_⟩
              rw [q3] at w2 ⊢
              rw [jx_up_n _ _ (by omega), jx_up_n _ _ (by omega)]
              exact w2
          · by_cases hif : i = f
            · subst hif
              rw [va_up_s]
              exact ⟨b1, b2, rfl⟩
            · rw [va_up_n _ _ hif]
              exact hF.2.2.2.2.1 i hi
        · intro q hq
          rw [jx_up_n _ _ (by omega), jx_up_n _ _ (by omega)]
      · exact jx_throw tl_IS ts_138 d_K_failsAt_59 d_K_failsAt_62 d_K_failsAt_63 d_K_failsAt_65 d_K_failsAt_68 (by omega) (by omega) (by omega) (k2 f hf rfl (by simp [sp_ff, kf_b_ne0 c56]))
    · exact jx_throw tl_IS ts_132 d_K_failsAt_40 d_K_failsAt_43 d_K_failsAt_44 d_K_failsAt_46 d_K_failsAt_49 (by omega) (by omega) (by omega) (k2 f hf rfl (fun h => c37 ((nI_ltI (b := 4) (by omega) (by omega)).mpr h.1)))
  · exact jx_throw tl_IO ts_122 d_K_failsAt_8 d_K_failsAt_11 d_K_failsAt_12 d_K_failsAt_14 d_K_failsAt_17 (by omega) (by omega) (by omega) (k1 (of_decide_eq_false (kf_b_ne c5)))
end CP3
