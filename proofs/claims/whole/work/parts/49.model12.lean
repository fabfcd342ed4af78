/-! PART 49: the reference: take -/
section CM12
variable {G : jx_G} {d b nF nK sz nS nA nO j : Nat} {la wi en pe cd lr fr tk lc db fc le : Int32} {gt lt t v : Int64} {nm : Nat → Int64} {kd : Nat → sp_key} {fd : sp_fd} {fw : Nat → Nat → Int64} {sn ac oc : Nat → Int64} {M : jx_H} {Z : Option Value → jx_H → Nat → Prop}
theorem v_M_take5 {P T g A : Nat} {l : List (Option Value)} (hd : 3 < d) (hl : jx_le l [some (.ref b), none, none, none, none, none, none, none, none, none, none]) (hP : pe = nI P) (hP1 : P ≤ 100000) (hA : la = nI A) (hA1 : A ≤ 100000) (hg : gt = lN g) (hg1 : g ≤ 2 ^ 40) (hlt0 : lt = lN T) (hT : T ≤ (g - A) / P * P) (hdv : P ∣ T) (hso : ∀ j, j < nK → sp_so (kd j)) (hnO : nO < 2 ^ 27) (hN : mW M b la wi en pe cd lr fr gt lt tk lc db fc le nF fd fw nK nm kd nS sn nA ac nO oc)
    (k : ∀ M', mW M' b la wi en pe cd lr fr gt (lN (sp_tT g A P T)) tk lc db fc le nF fd fw nK nm kd nS sn nA ac ((sp_to nF fd nm kd nK g A P T (nO, oc)).1) ((sp_to nF fd nm kd nK g A P T (nO, oc)).2) → mFr b M M' → Z none M' sz) :
    jx_V md_M_take [] G (jx_rm d 0 0) (jx_Q1 G 0 0 Z) 281 l [] M sz 0 0 := by
  refine jx_wk hl ?_
  obtain ⟨mk, ki, st, nu, fa, fl, nn, si, wo, ti, va, so, hmk, hB, hO, hF, hK, hS5, hS⟩ := id hN
  refine jx_aload_n (i := 0) d_M_take_281 rfl rfl ?_
  refine jx_getf d_M_take_282 gf_M_64 hB rfl ?_
  refine jx_if_le (tgt := 292) d_M_take_285 (by decide) (fun c285 => ?_) (fun c285 => ?_)
  · have hP0 : P = 0 := by
      rw [hP] at c285
      have := (nI_leI (a := P) (b := 0) (by omega) (by omega)).mp c285
      omega
    rw [sp_to, if_pos (Or.inl hP0), sp_tT, if_pos (Or.inl hP0), ← hlt0] at k
    exact jx_vret d_M_take_292 rfl (by omega) (by omega) (k M hN (mFr.refl b M))
  · have hP0 : 0 < P := by
      rcases Nat.eq_zero_or_pos P with h | h
      · exact absurd (by rw [hP, h]; decide) c285
      · exact h
    refine jx_aload_n (i := 0) d_M_take_288 rfl rfl ?_
    refine jx_callV0 d_M_take_289 mv_M_152 hB rfl (jx_ok_rm (by omega) (Nat.le_of_ble_eq_true rfl)) (Nat.le_of_ble_eq_true rfl) (jx_rmc (by omega)) (jx_rms (by omega)) (c_M_timers (d := 3) (P := P) (T := T) (g := g) (A := A) (by omega) hP hP0 hP1 hA hA1 hg hg1 hlt0 hT hdv hso hnO hN ?_)
    dsimp only [Option.toList, List.cons_append, List.nil_append]
    intro M2 hN2 hf2
    try dsimp only [Option.toList, List.cons_append, List.nil_append]
    exact jx_vret d_M_take_292 rfl (by omega) (by omega) (k M2 hN2 hf2)
theorem v_M_take4 {P T g A W : Nat} {thr : Int64} {l : List (Option Value)} (hd : 3 < d) (hl : jx_le l [some (.ref b), none, none, none, none, none, none, none, none, none, none]) (hW : wi = nI W) (hW1 : W ≤ 100000) (hP : pe = nI P) (hP1 : P ≤ 100000) (hA : la = nI A) (hA1 : A ≤ 100000) (hg : gt = lN g) (hg1 : g ≤ 2 ^ 40) (hlt0 : lt = lN T) (hT : T ≤ (g - A) / P * P) (hdv : P ∣ T) (hthr : thr = gt - la.toInt64 - wi.toInt64) (hso : ∀ j, j < nK → sp_so (sp_lk fd nF wi thr nK kd j)) (hnO : nO < 2 ^ 27) (hN : mW M b la wi en pe cd lr fr gt lt tk lc db fc le nF fd fw nK nm kd nS sn nA ac nO oc)
    (k : ∀ M', mW M' b la wi en pe cd lr fr gt (lN (sp_tT g A P T)) tk lc db fc (sp_ll wi thr nK kd le) nF fd fw nK nm (sp_lk fd nF wi thr nK kd) nS sn nA ac ((sp_to nF fd nm (sp_lk fd nF wi thr nK kd) nK g A P T (nO, oc)).1) ((sp_to nF fd nm (sp_lk fd nF wi thr nK kd) nK g A P T (nO, oc)).2) → mFr b M M' → Z none M' sz) :
    jx_V md_M_take [] G (jx_rm d 0 0) (jx_Q1 G 0 0 Z) 250 l [] M sz 0 0 := by
  refine jx_wk hl ?_
  have hwm : sp_wm gt = true := by
    rw [hg]
    have : ¬ lN g = -1 := fun h => by
      have := congrArg Int64.toInt h
      rw [pk_lT (by omega), show (-1 : Int64).toInt = -1 by decide] at this
      omega
    simp [sp_wm, this]
  have hnK : nK ≤ 30 := by
    obtain ⟨mk, ki, st, nu, fa, fl, nn, si, wo, ti, va, so, hmk, hB, hO, hF, hK, hS5, hS⟩ := id hN
    exact hK.1
  obtain ⟨mk, ki, st, nu, fa, fl, nn, si, wo, ti, va, so, hmk, hB, hO, hF, hK, hS5, hS⟩ := id hN
  refine jx_aload_n (i := 0) d_M_take_250 rfl rfl ?_
  refine jx_getf d_M_take_251 gf_M_58 hB rfl ?_
  refine jx_if_le (tgt := 281) d_M_take_254 (by decide) (fun c254 => ?_) (fun c254 => ?_)
  · have hw0 : wi = 0 := by
      rw [hW] at c254 ⊢
      have := (nI_leI (a := W) (b := 0) (by omega) (by omega)).mp c254
      rw [show W = 0 by omega]
      rfl
    have e1 : sp_lk fd nF wi thr nK kd = kd := by rw [sp_lk, if_pos hw0]
    have e2 : sp_ll wi thr nK kd le = le := by rw [sp_ll, if_pos hw0]
    rw [e1, e2] at k
    rw [e1] at hso
    exact v_M_take5 (P := P) (T := T) (g := g) (A := A) hd (by simp [jx_le]) hP hP1 hA hA1 hg hg1 hlt0 hT hdv hso hnO hN k
  · have hw0 : ¬ wi = 0 := fun h => c254 (by rw [h]; decide)
    have e1 : sp_lk fd nF wi thr nK kd = sp_um nK (fun j => sp_lv fd nF thr (kd j)) kd := by rw [sp_lk, if_neg hw0]
    have e2 : sp_ll wi thr nK kd le = sp_ws (fun j => nI (sp_lg thr (kd j))) le nK := by rw [sp_ll, if_neg hw0]
    rw [e1, e2] at k
    rw [e1] at hso
    have loop : ∀ (r i : Nat), i + r = nK → ∀ M1, mW M1 b la wi en pe cd lr fr gt lt tk lc db fc (sp_ws (fun j => nI (sp_lg thr (kd j))) le i) nF fd fw nK nm (sp_um i (fun j => sp_lv fd nF thr (kd j)) kd) nS sn nA ac nO oc → mFr b M M1 → jx_V md_M_take [] G (jx_rm d 0 0) (jx_Q1 G 0 0 Z) 260 [some (.ref b), none, none, none, none, none, none, none, none, none, some (.int (nI i))] [] M1 sz 0 0 := by
      intro r
      induction r with
      | zero =>
        intro i hi M1 hN1 hf1
        obtain ⟨mk1, ki1, st1, nu1, fa1, fl1, nn1, si1, wo1, ti1, va1, so1, hmk1, hB1, hO1, hF1, hK1, hS51, hS1⟩ := id hN1
        refine jx_iload d_M_take_260 rfl ?_
        refine jx_aload_n (i := 0) d_M_take_262 rfl rfl ?_
        refine jx_getf d_M_take_263 gf_M_74 hB1 rfl ?_
        refine jx_icmp_ge (tgt := 281) d_M_take_266 (by decide) (fun c266 => ?_) (fun c266 => ?_)
        · have hin : i = nK := by omega
          subst hin
          exact v_M_take5 (P := P) (T := T) (g := g) (A := A) hd (by simp [jx_le]) hP hP1 hA hA1 hg hg1 hlt0 hT hdv hso hnO hN1 (fun M' a1 a2 => k M' a1 (fun q hq => (a2 q hq).trans (hf1 q hq)))
        · exact absurd ((nI_leI (by omega) (by omega)).mpr (by omega)) c266
      | succ r ih =>
        intro i hi M1 hN1 hf1
        obtain ⟨mk1, ki1, st1, nu1, fa1, fl1, nn1, si1, wo1, ti1, va1, so1, hmk1, hB1, hO1, hF1, hK1, hS51, hS1⟩ := id hN1
        refine jx_iload d_M_take_260 rfl ?_
        refine jx_aload_n (i := 0) d_M_take_262 rfl rfl ?_
        refine jx_getf d_M_take_263 gf_M_74 hB1 rfl ?_
        refine jx_icmp_ge (tgt := 281) d_M_take_266 (by decide) (fun c266 => ?_) (fun c266 => ?_)
        · exact absurd ((nI_leI (by omega) (by omega)).mp c266) (by omega)
        · refine jx_aload_n (i := 0) d_M_take_269 rfl rfl ?_
          refine jx_iload d_M_take_270 rfl ?_
          refine jx_callV1 d_M_take_272 mv_M_148 hB1 rfl (jx_ok_rm (by omega) (Nat.le_of_ble_eq_true rfl)) (Nat.le_of_ble_eq_true rfl) (jx_rmc (by omega)) (jx_rms (by omega)) (c_M_leave (d := 1) (thr := thr) (by omega) (show i < nK by omega) hwm hthr hN1 ?_)
          dsimp only [Option.toList, List.cons_append, List.nil_append]
          intro M2 hN2 hf2
          try dsimp only [Option.toList, List.cons_append, List.nil_append]
          rw [sp_um_i, sp_um_s] at hN2
          refine jx_iinc d_M_take_275 rfl (Nat.le_of_ble_eq_true rfl) (jx_e11_10 (by trivial)) ?_
          refine jx_goto (tgt := 260) d_M_take_278 (by decide) ?_
          rw [nI_1]
          exact ih (i + 1) (by omega) M2 hN2 (fun q hq => (hf2 q hq).trans (hf1 q hq))
    refine jx_iconst (v := 0) d_M_take_257 (by decide) ?_
    refine jx_istore d_M_take_258 (Nat.le_of_ble_eq_true rfl) (jx_e11_10 (by trivial)) ?_
    exact loop nK 0 (by omega) M (by rw [sp_um_0]; exact hN) (mFr.refl b M)
theorem v_M_take3 {g A n : Nat} {l : List (Option Value)} (hl : jx_le l [some (.ref b), none, some (.long t), none, none, none, none, none, none, none, none]) (ht : t = lN n) (hn : n ≤ 2 ^ 40) (hA : la = nI A) (hA1 : A ≤ 100000) (hg : sp_gt gt g) (hg1 : g ≤ 2 ^ 40) (hN : mW M b la wi en pe cd lr fr gt lt tk lc db fc le nF fd fw nK nm kd nS sn nA ac nO oc)
    (k : ∀ M', mW M' b la wi en pe cd lr fr (lN (max g n)) lt tk lc db fc le nF fd fw nK nm kd nS sn nA ac nO oc → mFr b M M' → jx_V md_M_take [] G (jx_rm d 0 0) (jx_Q1 G 0 0 Z) 250 [some (.ref b), none, none, none, none, none, none, none, none, none, none] [] M' sz 0 0) :
    jx_V md_M_take [] G (jx_rm d 0 0) (jx_Q1 G 0 0 Z) 213 l [] M sz 0 0 := by
  refine jx_wk hl ?_
  obtain ⟨mk, ki, st, nu, fa, fl, nn, si, wo, ti, va, so, hmk, hB, hO, hF, hK, hS5, hS⟩ := id hN
  have hwm : ∀ q, q ≤ 2 ^ 40 → sp_wm (lN q) = true := by
    intro q hq
    have : ¬ lN q = -1 := fun h => by
      have := congrArg Int64.toInt h
      rw [pk_lT (by omega), show (-1 : Int64).toInt = -1 by decide] at this
      omega
    simp [sp_wm, this]
  have lev : ∀ q, q ≤ 2 ^ 40 → (lN q - la.toInt64).toInt = (q : Int) - A := by
    intro q hq
    rw [hA, nI_l (by omega), Int64.toInt_sub, pk_lT (by omega), pk_lT (by omega)]
    exact Int.bmod_eq_of_le (by omega) (by omega)
  have fin : ∀ M1 mk1 im1, mk1 = lN (max g n) - la.toInt64 → M1 b = some (kf_M la wi en pe cd nF b lr fr nK nS im1 mk1 lt nA nO tk lc db fc le) → mO M1 b ki st nu fa fl nn si wo ti va so ac oc → mFr b M M1 → jx_V md_M_take [] G (jx_rm d 0 0) (jx_Q1 G 0 0 Z) 245 [some (.ref b), none, none, none, none, none, none, none, none, none, none] [] M1 sz 0 0 := by
    intro M1 mk1 im1 h1 hB1 hO1 hf1
    refine jx_aload_n (i := 0) d_M_take_245 rfl rfl ?_
    refine jx_iconst (v := 1) d_M_take_246 (by decide) ?_
    refine jx_putf d_M_take_247 pf_M_110 hB1 (Nat.le_of_ble_eq_true rfl) rfl rfl ?_
    refine k _ ⟨mk1, ki, st, nu, fa, fl, nn, si, wo, ti, va, so, fun _ => h1, ?_, hO1.s_b _, hF, hK, hS5, hS⟩ (hf1.up (by omega) (by omega))
    rw [hwm _ (by omega)]
    exact jx_up_s _ _ _
  refine jx_lload_n (i := 2) d_M_take_213 rfl rfl ?_
  refine jx_aload_n (i := 0) d_M_take_214 rfl rfl ?_
  refine jx_getf d_M_take_215 gf_M_54 hB rfl ?_
  refine jx_i2l d_M_take_218 ?_
  refine jx_lsub d_M_take_219 ?_
  refine jx_lstore d_M_take_220 (Nat.le_of_ble_eq_true rfl) (jx_f11_8 (by trivial)) ?_
  refine jx_aload_n (i := 0) d_M_take_222 rfl rfl ?_
  refine jx_getf d_M_take_223 gf_M_110 hB rfl ?_
  refine jx_if_eq (tgt := 239) d_M_take_226 (by decide) (fun c226 => ?_) (fun c226 => ?_)
  · have hgm : gt = -1 ∧ g = 0 := by
      rcases hg with h | h
      · exact h
      · rw [h, hwm g hg1] at c226
        exact absurd c226 (by decide)
    refine jx_aload_n (i := 0) d_M_take_239 rfl rfl ?_
    refine jx_lload d_M_take_240 rfl ?_
    refine jx_putf d_M_take_242 pf_M_114 hB (Nat.le_of_ble_eq_true rfl) rfl rfl ?_
    refine jx_wk (l' := [some (.ref b), none, none, none, none, none, none, none, none, none, none]) (by simp [jx_le]) ?_
    exact fin _ _ _ (by rw [ht, hgm.2, Nat.zero_max]) (jx_up_s _ _ _) (hO.s_b _) ((mFr.refl b M).up (by omega) (by omega))
  · have hgm : gt = lN g := by
      rcases hg with h | h
      · rw [h.1] at c226
        exact absurd rfl c226
      · exact h
    have hmk' := hmk (kf_b_ne0 c226)
    refine jx_lload d_M_take_229 rfl ?_
    refine jx_aload_n (i := 0) d_M_take_231 rfl rfl ?_
    refine jx_getf d_M_take_232 gf_M_114 hB rfl ?_
    refine jx_l_le (tgt := 245) d_M_take_235 d_M_take_236 (by decide) (fun c235 => ?_) (fun c235 => ?_)
    · rw [hmk', hgm, ht, Int64.le_iff_toInt_le, lev n hn, lev g hg1] at c235
      refine jx_wk (l' := [some (.ref b), none, none, none, none, none, none, none, none, none, none]) (by simp [jx_le]) ?_
      exact fin M mk _ (by rw [hmk', hgm, Nat.max_eq_left (by omega)]) hB hO (mFr.refl b M)
    · rw [hmk', hgm, ht, Int64.le_iff_toInt_le, lev n hn, lev g hg1] at c235
      refine jx_aload_n (i := 0) d_M_take_239 rfl rfl ?_
      refine jx_lload d_M_take_240 rfl ?_
      refine jx_putf d_M_take_242 pf_M_114 hB (Nat.le_of_ble_eq_true rfl) rfl rfl ?_
      refine jx_wk (l' := [some (.ref b), none, none, none, none, none, none, none, none, none, none]) (by simp [jx_le]) ?_
      exact fin _ _ _ (by rw [ht, Nat.max_eq_right (by omega)]) (jx_up_s _ _ _) (hO.s_b _) ((mFr.refl b M).up (by omega) (by omega))
end CM12
