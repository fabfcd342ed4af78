/-! PART 52: the reference: row, whole -/
section CM15
variable {G : jx_G} {d b nF nK sz nS nA nO : Nat} {la wi en pe cd lr fr tk lc db fc le : Int32} {gt lt t v key : Int64} {nm : Nat → Int64} {kd : Nat → sp_key} {fd : sp_fd} {fw : Nat → Nat → Int64} {sn ac oc : Nat → Int64} {M : jx_H} {Z : Option Value → jx_H → Nat → Prop} {bo : Bool} {r : Option Nat}
/-- the row makes a fold fail -/
theorem v_M_row3 {y : Int32} (hd : 4 < d) (hnS : nS < 512) (hnA : nA < 2 ^ 29) (hfr : fr = 0 ∨ fr = 1 ∨ fr = 2) (hN : mW M b la wi en pe 0 lr fr gt lt tk lc db fc le nF fd fw nK nm kd nS sn nA ac nO oc)
    (k4 : fr = 0 → ∀ M', mW M' b la wi en pe 0 lr fr gt lt tk (lc + kf_b bo) db (fc + 1) le nF fd fw nK nm kd (nS + 1) (vp_updL sn nS key) nA ac nO oc → mFr b M M' → Z (some (.int 4)) M' sz)
    (k5 : fr = 1 → ∀ M', mW M' b la wi en pe 0 lr fr gt lt tk (lc + kf_b bo) db (fc + 1) le nF fd fw nK nm kd nS sn (nA + 1) (sp_pa ac nA key t v y.toInt64) nO oc → mFr b M M' → Z (some (.int 5)) M' sz)
    (k6 : fr = 2 → ∀ M', mW M' b la wi en pe 0 lr fr gt lt tk (lc + kf_b bo) db (fc + 1) le nF fd fw nK nm kd nS sn nA ac nO oc → mFr b M M' → Z (some (.int 6)) M' sz) :
    jx_V md_M_row [] G (jx_rm d 0 0) (jx_Q1 G 0 0 Z) 186 [some (.ref b), some (.long key), none, some (.long t), none, some (.long v), none, some (.int (kf_b bo)), none, some (.int y)] [] M sz 0 0 := by
  have rest : ∀ M1, mW M1 b la wi en pe 0 lr fr gt lt tk (lc + kf_b bo) db (fc + 1) le nF fd fw nK nm kd nS sn nA ac nO oc → mFr b M M1 → jx_V md_M_row [] G (jx_rm d 0 0) (jx_Q1 G 0 0 Z) 215 [some (.ref b), some (.long key), none, some (.long t), none, some (.long v), none, none, none, some (.int y)] [] M1 sz 0 0 := by
    intro M1 hN1 hf1
    obtain ⟨mk, ki, st, nu, fa, fl, nn, si, wo, ti, va, so, hmk, hB, hO, hF, hK, hS5, hS⟩ := id hN1
    obtain ⟨h1, h2, h3, h4, h5, h6, h7, h8, h9, h10, h11, h12, h13⟩ := id hO
    refine jx_aload_n (i := 0) d_M_row_215 rfl rfl ?_
    refine jx_getf d_M_row_216 gf_M_94 hB rfl ?_
    refine jx_if_ne (tgt := 242) d_M_row_219 (by decide) (fun c219 => ?_) (fun c219 => ?_)
    · refine jx_aload_n (i := 0) d_M_row_242 rfl rfl ?_
      refine jx_getf d_M_row_243 gf_M_94 hB rfl ?_
      refine jx_iconst (v := 1) d_M_row_246 (by decide) ?_
      refine jx_icmp_ne (tgt := 260) d_M_row_247 (by decide) (fun c247 => ?_) (fun c247 => ?_)
      · have h2 : fr = 2 := by
          rcases hfr with h | h | h
          · exact absurd h c219
          · exact absurd h c247
          · exact h
        refine jx_iconst (v := 4) d_M_row_260 (by decide) ?_
        refine jx_aload_n (i := 0) d_M_row_261 rfl rfl ?_
        refine jx_getf d_M_row_262 gf_M_94 hB rfl ?_
        refine jx_iadd d_M_row_265 ?_
        rw [show (4 : Int32) + fr = 6 by rw [h2]; rfl]
        exact jx_iret d_M_row_266 rfl (by omega) (by omega) (k6 h2 M1 hN1 hf1)
      · refine jx_aload_n (i := 0) d_M_row_250 rfl rfl ?_
        refine jx_lload_n (i := 1) d_M_row_251 rfl rfl ?_
        refine jx_lload_n (i := 3) d_M_row_252 rfl rfl ?_
        refine jx_lload d_M_row_253 rfl ?_
        refine jx_iload d_M_row_255 rfl ?_
        refine jx_callV4 d_M_row_257 mv_M_121 hB rfl (jx_ok_rm (by omega) (Nat.le_of_ble_eq_true rfl)) (Nat.le_of_ble_eq_true rfl) (jx_rmc (by omega)) (jx_rms (by omega)) (c_M_putAside (d := 0) hnA hN1 ?_)
        dsimp only [Option.toList, List.cons_append, List.nil_append]
        intro M2 hN2 hf2
        obtain ⟨mk2, ki2, st2, nu2, fa2, fl2, nn2, si2, wo2, ti2, va2, so2, hmk2, hB2, -⟩ := id hN2
        try dsimp only [Option.toList, List.cons_append, List.nil_append]
        refine jx_iconst (v := 4) d_M_row_260 (by decide) ?_
        refine jx_aload_n (i := 0) d_M_row_261 rfl rfl ?_
        refine jx_getf d_M_row_262 gf_M_94 hB2 rfl ?_
        refine jx_iadd d_M_row_265 ?_
        rw [show (4 : Int32) + fr = 5 by rw [c247]; rfl]
        exact jx_iret d_M_row_266 rfl (by omega) (by omega) (k5 c247 M2 hN2 (fun q hq => (hf2 q hq).trans (hf1 q hq)))
    · have hBu : ∀ e, jx_up M1 (b + 11) e b = some (kf_M la wi en pe 0 nF b lr fr nK nS (kf_b (sp_wm gt)) mk lt nA nO tk (lc + kf_b bo) db (fc + 1) le) := fun e => (jx_up_n _ _ (by omega)).trans hB
      refine jx_aload_n (i := 0) d_M_row_222 rfl rfl ?_
      refine jx_getf d_M_row_223 gf_M_41 hB rfl ?_
      refine jx_aload_n (i := 0) d_M_row_226 rfl rfl ?_
      refine jx_getf d_M_row_227 gf_M_77 hB rfl ?_
      refine jx_lload_n (i := 1) d_M_row_230 rfl rfl ?_
      refine jx_lastj d_M_row_231 h11 rfl (by omega) (by omega) ?_
      refine jx_aload_n (i := 0) d_M_row_232 rfl rfl ?_
      refine jx_dup d_M_row_233 rfl ?_
      refine jx_getf d_M_row_234 gf_M_77 (hBu _) rfl ?_
      refine jx_iconst (v := 1) d_M_row_237 (by decide) ?_
      refine jx_iadd d_M_row_238 ?_
      refine jx_putf d_M_row_239 pf_M_77 (hBu _) (Nat.le_of_ble_eq_true rfl) rfl rfl ?_
      rw [nI_1]
      refine jx_aload_n (i := 0) d_M_row_242 rfl rfl ?_
      refine jx_getf d_M_row_243 gf_M_94 (jx_up_s _ _ _) rfl ?_
      refine jx_iconst (v := 1) d_M_row_246 (by decide) ?_
      refine jx_icmp_ne (tgt := 260) d_M_row_247 (by decide) (fun c247 => ?_) (fun c247 => ?_)
      · refine jx_iconst (v := 4) d_M_row_260 (by decide) ?_
        refine jx_aload_n (i := 0) d_M_row_261 rfl rfl ?_
        refine jx_getf d_M_row_262 gf_M_94 (jx_up_s _ _ _) rfl ?_
        refine jx_iadd d_M_row_265 ?_
        rw [show (4 : Int32) + fr = 4 by rw [c219]; rfl]
        exact jx_iret d_M_row_266 rfl (by omega) (by omega) (by
          refine k4 c219 _ ⟨mk, ki, st, nu, fa, fl, nn, si, wo, ti, va, vp_updL so nS key, hmk, jx_up_s _ _ _, (hO.s_so _).s_b _, hF, hK, by omega, fun i hi => ?_⟩ ((hf1.up (by omega) (by omega)).up (by omega) (by omega))
          by_cases e : i = nS
          · rw [e, updL_s, updL_s]
          · rw [updL_n _ _ e, updL_n _ _ e]
            exact hS i (by omega))
      · rw [c219] at c247
        exact absurd c247 (by decide)
  obtain ⟨mk, ki, st, nu, fa, fl, nn, si, wo, ti, va, so, hmk, hB, hO, hF, hK, hS5, hS⟩ := id hN
  refine jx_aload_n (i := 0) d_M_row_186 rfl rfl ?_
  refine jx_dup d_M_row_187 rfl ?_
  refine jx_getf d_M_row_188 gf_M_138 hB rfl ?_
  refine jx_iconst (v := 1) d_M_row_191 (by decide) ?_
  refine jx_iadd d_M_row_192 ?_
  refine jx_putf d_M_row_193 pf_M_138 hB (Nat.le_of_ble_eq_true rfl) rfl rfl ?_
  have hB1 := jx_up_s M b (kf_M la wi en pe 0 nF b lr fr nK nS (kf_b (sp_wm gt)) mk lt nA nO tk lc db (fc + 1) le)
  have hN1 : mW (jx_up M b (kf_M la wi en pe 0 nF b lr fr nK nS (kf_b (sp_wm gt)) mk lt nA nO tk lc db (fc + 1) le)) b la wi en pe 0 lr fr gt lt tk lc db (fc + 1) le nF fd fw nK nm kd nS sn nA ac nO oc := ⟨mk, ki, st, nu, fa, fl, nn, si, wo, ti, va, so, hmk, jx_up_s _ _ _, hO.s_b _, hF, hK, hS5, hS⟩
  have fin : jx_V md_M_row [] G (jx_rm d 0 0) (jx_Q1 G 0 0 Z) 212 [some (.ref b), some (.long key), none, some (.long t), none, some (.long v), none, some (.int (kf_b bo)), none, some (.int y)] [.int (lc + kf_b bo), .ref b] (jx_up M b (kf_M la wi en pe 0 nF b lr fr nK nS (kf_b (sp_wm gt)) mk lt nA nO tk lc db (fc + 1) le)) sz 0 0 := by
    refine jx_putf d_M_row_212 pf_M_118 (jx_up_s _ _ _) (Nat.le_of_ble_eq_true rfl) rfl rfl ?_
    refine jx_wk (l' := [some (.ref b), some (.long key), none, some (.long t), none, some (.long v), none, none, none, some (.int y)]) (by simp [jx_le]) ?_
    exact rest _ ⟨mk, ki, st, nu, fa, fl, nn, si, wo, ti, va, so, hmk, jx_up_s _ _ _, (hO.s_b _).s_b _, hF, hK, hS5, hS⟩ (((mFr.refl b M).up (by omega) (by omega)).up (by omega) (by omega))
  refine jx_aload_n (i := 0) d_M_row_196 rfl rfl ?_
  refine jx_dup d_M_row_197 rfl ?_
  refine jx_getf d_M_row_198 gf_M_118 (jx_up_s _ _ _) rfl ?_
  refine jx_iload d_M_row_201 rfl ?_
  refine jx_if_eq (tgt := 210) d_M_row_203 (by decide) (fun c203 => ?_) (fun c203 => ?_)
  · refine jx_iconst (v := 0) d_M_row_210 (by decide) ?_
    refine jx_iadd d_M_row_211 ?_
    rw [kf_b_ne c203] at fin ⊢
    exact fin
  · refine jx_iconst (v := 1) d_M_row_206 (by decide) ?_
    refine jx_goto (tgt := 211) d_M_row_207 (by decide) ?_
    refine jx_iadd d_M_row_211 ?_
    rw [kf_b_ne0 c203] at fin ⊢
    exact fin
theorem c_M_row {P T g A W : Nat} (hd : 4 < d) (hW : wi = nI W) (hW1 : W ≤ 100000) (hP : pe = nI P) (hP1 : P ≤ 100000) (hA : la = nI A) (hA1 : A ≤ 100000) (hg : sp_gt gt g) (hg1 : g ≤ 2 ^ 40) (hlt0 : lt = lN T) (hT : T ≤ (g - A) / P * P) (hdv : P ∣ T) (hso : ∀ i, i < nK → sp_so (kd i)) (htr : ∀ i, i < nK → sp_tr (kd i)) (hnO : nO < 2 ^ 27) (hnS : nS < 512) (hnA : nA < 2 ^ 29) (hlr : lr = 0 ∨ lr = 1 ∨ lr = 2) (hfr : fr = 0 ∨ fr = 1 ∨ fr = 2) (hN : mW M b la wi en pe cd lr fr gt lt tk lc db fc le nF fd fw nK nm kd nS sn nA ac nO oc)
    (kx1 : ¬ (¬ t < 0 ∧ t ≤ 1099511627776) → ∀ M', mW M' b la wi en pe 1 lr fr gt lt tk lc db fc le nF fd fw nK nm kd nS sn nA ac nO oc → mFr b M M' → Z (some (.int 0)) M' sz)
    (kx2 : (¬ t < 0 ∧ t ≤ 1099511627776) → ¬ sp_ok nF nS sn key → ∀ M', mW M' b la wi en pe 2 lr fr gt lt tk lc db fc le nF fd fw nK nm kd nS sn nA ac nO oc → mFr b M M' → Z (some (.int 0)) M' sz)
    (kx3 : ∀ n, t = lN n → n ≤ 2 ^ 40 → sp_ok nF nS sn key → sp_cC gt la lr fr en nK nm kd fd fw nF key t v = 0 → sp_rf (sp_ix (fun j => nm j == key) nK) nK (fun j => (kd j).1) = false → ∀ M', mW M' b la wi en pe 2 lr fr gt lt tk lc db fc le nF fd fw nK nm kd nS sn nA ac nO oc → mFr b M M' → Z (some (.int 0)) M' sz)
    (k0 : ∀ n r thr, t = lN n → n ≤ 2 ^ 40 → sp_ok nF nS sn key → sp_cC gt la lr fr en nK nm kd fd fw nF key t v = 0 → sp_ix (fun j => nm j == key) nK = r → sp_rf r nK (fun j => (kd j).1) = true → thr = lN (max g n) - la.toInt64 - wi.toInt64 → ∀ M', mW M' b la wi en pe 0 lr fr (lN (max g n)) (lN (sp_tT (max g n) A P T)) (tk + 1) (lc + kf_b (sp_lt gt la t)) db fc (sp_ll wi thr (sp_nk r nK) (sp_nd r nK kd fd nF t v) le) nF fd fw (sp_nk r nK) (sp_nn r nK nm key) (sp_lk fd nF wi thr (sp_nk r nK) (sp_nd r nK kd fd nF t v)) nS sn nA ac ((sp_to nF fd (sp_nn r nK nm key) (sp_lk fd nF wi thr (sp_nk r nK) (sp_nd r nK kd fd nF t v)) (sp_nk r nK) (max g n) A P T (nO, oc)).1) ((sp_to nF fd (sp_nn r nK nm key) (sp_lk fd nF wi thr (sp_nk r nK) (sp_nd r nK kd fd nF t v)) (sp_nk r nK) (max g n) A P T (nO, oc)).2) → mFr b M M' → Z (some (.int 0)) M' sz)
    (k1 : ∀ n, t = lN n → n ≤ 2 ^ 40 → sp_ok nF nS sn key → sp_cC gt la lr fr en nK nm kd fd fw nF key t v = 1 → ∀ M', mW M' b la wi en pe 0 lr fr gt lt tk (lc + kf_b (sp_lt gt la t)) db fc le nF fd fw nK nm kd nS sn nA ac nO oc → mFr b M M' → Z (some (.int 1)) M' sz)
    (k2 : ∀ n, t = lN n → n ≤ 2 ^ 40 → sp_ok nF nS sn key → sp_cC gt la lr fr en nK nm kd fd fw nF key t v = 2 → ∀ M', mW M' b la wi en pe 0 lr fr gt lt tk (lc + kf_b (sp_lt gt la t)) db fc le nF fd fw nK nm kd nS sn (nA + 1) (sp_pa ac nA key t v (-1)) nO oc → mFr b M M' → Z (some (.int 2)) M' sz)
    (k3 : ∀ n, t = lN n → n ≤ 2 ^ 40 → sp_ok nF nS sn key → sp_cC gt la lr fr en nK nm kd fd fw nF key t v = 3 → ∀ M', mW M' b la wi en pe 0 lr fr gt lt tk (lc + kf_b (sp_lt gt la t)) (db + 1) fc le nF fd fw nK nm kd nS sn nA ac nO oc → mFr b M M' → Z (some (.int 3)) M' sz)
    (k4 : ∀ n, t = lN n → n ≤ 2 ^ 40 → sp_ok nF nS sn key → sp_cC gt la lr fr en nK nm kd fd fw nF key t v = 4 → ∀ M', mW M' b la wi en pe 0 lr fr gt lt tk (lc + kf_b (sp_lt gt la t)) db (fc + 1) le nF fd fw nK nm kd (nS + 1) (vp_updL sn nS key) nA ac nO oc → mFr b M M' → Z (some (.int 4)) M' sz)
    (k5 : ∀ n, t = lN n → n ≤ 2 ^ 40 → sp_ok nF nS sn key → sp_cC gt la lr fr en nK nm kd fd fw nF key t v = 5 → ∀ M', mW M' b la wi en pe 0 lr fr gt lt tk (lc + kf_b (sp_lt gt la t)) db (fc + 1) le nF fd fw nK nm kd nS sn (nA + 1) (sp_pa ac nA key t v (kf_ix (sp_ix (sp_ff fd fw v) nF)).toInt64) nO oc → mFr b M M' → Z (some (.int 5)) M' sz)
    (k6 : ∀ n, t = lN n → n ≤ 2 ^ 40 → sp_ok nF nS sn key → sp_cC gt la lr fr en nK nm kd fd fw nF key t v = 6 → ∀ M', mW M' b la wi en pe 0 lr fr gt lt tk (lc + kf_b (sp_lt gt la t)) db (fc + 1) le nF fd fw nK nm kd nS sn nA ac nO oc → mFr b M M' → Z (some (.int 6)) M' sz) :
    jx_Cr md_M_row G d [.ref b, .long key, .long t, .long v] M sz 0 0 Z := by
  refine jx_ent rfl (Nat.le_of_ble_eq_true rfl) (l := [some (.ref b), some (.long key), none, some (.long t), none, some (.long v), none, none, none, none]) (by simp [jx_le, jx_eas, Value.category]) (fun hlt => ?_)
  have hN0 := hN
  obtain ⟨mk, ki, st, nu, fa, fl, nn, si, wo, ti, va, so, hmk, hB, hO, hF, hK, hS5, hS⟩ := id hN
  have hU : ∀ cd' : Int32, mW (jx_up M b (kf_M la wi en pe cd' nF b lr fr nK nS (kf_b (sp_wm gt)) mk lt nA nO tk lc db fc le)) b la wi en pe cd' lr fr gt lt tk lc db fc le nF fd fw nK nm kd nS sn nA ac nO oc := fun cd' => ⟨mk, ki, st, nu, fa, fl, nn, si, wo, ti, va, so, hmk, jx_up_s _ _ _, hO.to (fun q q1 q2 => jx_up_n _ _ (by omega)), hF, hK, hS5, hS⟩
  have hnF := hF.1
  have bad1 : ¬ (¬ t < 0 ∧ t ≤ 1099511627776) → jx_V md_M_row [] G (jx_rm d 0 0) (jx_Q1 G 0 0 Z) 15 [some (.ref b), some (.long key), none, some (.long t), none, some (.long v), none, none, none, none] [.ref b] M sz 0 0 := by
    intro hx
    refine jx_iconst (v := 1) d_M_row_15 (by decide) ?_
    refine jx_goto (tgt := 40) d_M_row_16 (by decide) ?_
    refine jx_putf d_M_row_40 pf_M_67 hB (Nat.le_of_ble_eq_true rfl) rfl rfl ?_
    refine jx_aload_n (i := 0) d_M_row_43 rfl rfl ?_
    refine jx_getf d_M_row_44 gf_M_67 (jx_up_s _ _ _) rfl ?_
    refine jx_if_le (tgt := 52) d_M_row_47 (by decide) (fun c47 => ?_) (fun c47 => ?_)
    · exact absurd c47 (by decide)
    · refine jx_iconst (v := 0) d_M_row_50 (by decide) ?_
      exact jx_iret d_M_row_51 rfl (by omega) (by omega) (kx1 hx _ (hU 1) (fun q hq => jx_up_n _ _ (by omega)))
  have bad2 : (¬ t < 0 ∧ t ≤ 1099511627776) → ¬ sp_ok nF nS sn key → jx_V md_M_row [] G (jx_rm d 0 0) (jx_Q1 G 0 0 Z) 35 [some (.ref b), some (.long key), none, some (.long t), none, some (.long v), none, none, none, none] [.ref b] M sz 0 0 := by
    intro hm hx
    refine jx_iconst (v := 2) d_M_row_35 (by decide) ?_
    refine jx_goto (tgt := 40) d_M_row_36 (by decide) ?_
    refine jx_putf d_M_row_40 pf_M_67 hB (Nat.le_of_ble_eq_true rfl) rfl rfl ?_
    refine jx_aload_n (i := 0) d_M_row_43 rfl rfl ?_
    refine jx_getf d_M_row_44 gf_M_67 (jx_up_s _ _ _) rfl ?_
    refine jx_if_le (tgt := 52) d_M_row_47 (by decide) (fun c47 => ?_) (fun c47 => ?_)
    · exact absurd c47 (by decide)
    · refine jx_iconst (v := 0) d_M_row_50 (by decide) ?_
      exact jx_iret d_M_row_51 rfl (by omega) (by omega) (kx2 hm hx _ (hU 2) (fun q hq => jx_up_n _ _ (by omega)))
  -- behind the first test
  have good : ∀ n, t = lN n → n ≤ 2 ^ 40 → sp_ok nF nS sn key → jx_V md_M_row [] G (jx_rm d 0 0) (jx_Q1 G 0 0 Z) 52 [some (.ref b), some (.long key), none, some (.long t), none, some (.long v), none, none, none, none] [] (jx_up M b (kf_M la wi en pe 0 nF b lr fr nK nS (kf_b (sp_wm gt)) mk lt nA nO tk lc db fc le)) sz 0 0 := by
    intro n htn hn hok
    have hN1 := hU 0
    have hf1 : mFr b M (jx_up M b (kf_M la wi en pe 0 nF b lr fr nK nS (kf_b (sp_wm gt)) mk lt nA nO tk lc db fc le)) := (fun q hq => jx_up_n _ _ (by omega))
    have hB1 := jx_up_s M b (kf_M la wi en pe 0 nF b lr fr nK nS (kf_b (sp_wm gt)) mk lt nA nO tk lc db fc le)
    have hO1 := hO.s_b (kf_M la wi en pe 0 nF b lr fr nK nS (kf_b (sp_wm gt)) mk lt nA nO tk lc db fc le)
    generalize jx_up M b (kf_M la wi en pe 0 nF b lr fr nK nS (kf_b (sp_wm gt)) mk lt nA nO tk lc db fc le) = M1 at *
    have keyed : ∀ bo, bo = sp_lt gt la t → ¬ (bo = true ∧ (lr = 0 ∨ lr = 1)) → jx_V md_M_row [] G (jx_rm d 0 0) (jx_Q1 G 0 0 Z) 122 [some (.ref b), some (.long key), none, some (.long t), none, some (.long v), none, some (.int (kf_b bo)), none, none] [] M1 sz 0 0 := by
      intro bo hbo hnl
      have hco : ∀ dbl cause, sp_co (sp_lt gt la t) lr fr dbl cause = if dbl = true then 3 else if cause = none then 0 else if fr = 0 then 4 else if fr = 1 then 5 else 6 := by
        intro dbl cause
        unfold sp_co
        rw [if_neg (fun h => hnl ⟨hbo.trans h.1, Or.inl h.2⟩), if_neg (fun h => hnl ⟨hbo.trans h.1, Or.inr h.2⟩)]
      refine jx_aload_n (i := 0) d_M_row_122 rfl rfl ?_
      refine jx_lload_n (i := 1) d_M_row_123 rfl rfl ?_
      refine jx_callV1 d_M_row_124 mv_M_125 hB1 rfl (jx_ok_rm (by omega) (Nat.le_of_ble_eq_true rfl)) (Nat.le_of_ble_eq_true rfl) (jx_rmc (by omega)) (jx_rms (by omega)) (c_M_keyOf (d := 0) hN1 ?_)
      dsimp only [Option.toList, List.cons_append, List.nil_append]
      refine jx_istore d_M_row_127 (Nat.le_of_ble_eq_true rfl) (jx_e10_8 (by trivial)) ?_
      refine jx_aload_n (i := 0) d_M_row_129 rfl rfl ?_
      refine jx_iload d_M_row_130 rfl ?_
      refine jx_lload_n (i := 3) d_M_row_132 rfl rfl ?_
      refine jx_lload d_M_row_133 rfl ?_
      refine jx_callV3 d_M_row_135 mv_M_128 hB1 rfl (jx_ok_rm (by omega) (Nat.le_of_ble_eq_true rfl)) (Nat.le_of_ble_eq_true rfl) (jx_rmc (by omega)) (jx_rms (by omega)) (c_M_isDouble (d := 0) (n := n) rfl htn hn (fun j hj i hi => htr j hj i hi) hN1 ?_)
      dsimp only [Option.toList, List.cons_append, List.nil_append]
      refine jx_if_eq (tgt := 172) d_M_row_138 (by decide) (fun c138 => ?_) (fun c138 => ?_)
      · have hdb := kf_b_ne c138
        refine jx_aload_n (i := 0) d_M_row_172 rfl rfl ?_
        refine jx_lload d_M_row_173 rfl ?_
        refine jx_callV1 d_M_row_175 mv_M_135 hB1 rfl (jx_ok_rm (by omega) (Nat.le_of_ble_eq_true rfl)) (Nat.le_of_ble_eq_true rfl) (jx_rmc (by omega)) (jx_rms (by omega)) (c_M_causeOf (d := 1) (by omega) hN1 ?_)
        dsimp only [Option.toList, List.cons_append, List.nil_append]
        cases hca : sp_ix (sp_ff fd fw v) nF with
        | none =>
          have hcode : sp_cC gt la lr fr en nK nm kd fd fw nF key t v = 0 := by
            show sp_co _ _ _ _ _ = 0
            rw [hco, hdb, hca]
            rfl
          refine jx_istore d_M_row_178 (Nat.le_of_ble_eq_true rfl) (jx_e10_9 (by trivial)) ?_
          refine jx_iload d_M_row_180 rfl ?_
          refine jx_iconst (v := (-1)) d_M_row_182 (by decide) ?_
          refine jx_icmp_eq (tgt := 267) d_M_row_183 (by decide) (fun c183 => ?_) (fun c183 => ?_)
          · subst hbo
            refine v_M_row4 (P := P) (T := T) (g := g) (A := A) (W := W) (n := n) (r := sp_ix (fun j => nm j == key) nK) hd htn hn hW hW1 hP hP1 hA hA1 hg hg1 hlt0 hT hdv rfl hso hnO rfl hN1 (fun h9 M' a1 a2 => kx3 n htn hn hok hcode h9 M' a1 (fun q hq => (a2 q hq).trans (hf1 q hq))) (fun h9 M' a1 a2 => k0 n _ _ htn hn hok hcode rfl h9 rfl M' a1 (fun q hq => (a2 q hq).trans (hf1 q hq)))
          · exact absurd kf_ix_none c183
        | some f =>
          have hfF := (sp_ix_lt hca).1
          have hcode : sp_cC gt la lr fr en nK nm kd fd fw nF key t v = if fr = 0 then 4 else if fr = 1 then 5 else 6 := by
            show sp_co _ _ _ _ _ = _
            rw [hco, hdb, hca]
            rfl
          refine jx_istore d_M_row_178 (Nat.le_of_ble_eq_true rfl) (jx_e10_9 (by trivial)) ?_
          refine jx_iload d_M_row_180 rfl ?_
          refine jx_iconst (v := (-1)) d_M_row_182 (by decide) ?_
          refine jx_icmp_eq (tgt := 267) d_M_row_183 (by decide) (fun c183 => ?_) (fun c183 => ?_)
          · exact absurd c183 (nI_m1 (by omega))
          · subst hbo
            refine jx_wk (l' := [some (.ref b), some (.long key), none, some (.long t), none, some (.long v), none, some (.int (kf_b (sp_lt gt la t))), none, some (.int (kf_ix (some f)))]) (by simp [jx_le]) ?_
            refine v_M_row3 hd hnS hnA hfr hN1 ?_ ?_ ?_
            · intro h9 M' a1 a2
              exact k4 n htn hn hok (by rw [hcode, h9]; rfl) M' a1 (fun q hq => (a2 q hq).trans (hf1 q hq))
            · intro h9 M' a1 a2
              have hk := k5 n htn hn hok (by rw [hcode, h9]; rfl) M'
              rw [hca] at hk
              exact hk a1 (fun q hq => (a2 q hq).trans (hf1 q hq))
            · intro h9 M' a1 a2
              exact k6 n htn hn hok (by rw [hcode, h9]; rfl) M' a1 (fun q hq => (a2 q hq).trans (hf1 q hq))
      · have hdb := kf_b_ne0 c138
        have hcode : sp_cC gt la lr fr en nK nm kd fd fw nF key t v = 3 := by
          show sp_co _ _ _ _ _ = 3
          rw [hco, hdb]
          rfl
        refine jx_aload_n (i := 0) d_M_row_141 rfl rfl ?_
        refine jx_dup d_M_row_142 rfl ?_
        refine jx_getf d_M_row_143 gf_M_132 hB1 rfl ?_
        refine jx_iconst (v := 1) d_M_row_146 (by decide) ?_
        refine jx_iadd d_M_row_147 ?_
        refine jx_putf d_M_row_148 pf_M_132 hB1 (Nat.le_of_ble_eq_true rfl) rfl rfl ?_
        have fin : jx_V md_M_row [] G (jx_rm d 0 0) (jx_Q1 G 0 0 Z) 167 [some (.ref b), some (.long key), none, some (.long t), none, some (.long v), none, some (.int (kf_b bo)), some (.int (kf_ix (sp_ix (fun j => nm j == key) nK))), none] [.int (lc + kf_b bo), .ref b] (jx_up M1 b (kf_M la wi en pe 0 nF b lr fr nK nS (kf_b (sp_wm gt)) mk lt nA nO tk lc (db + 1) fc le)) sz 0 0 := by
          subst hbo
          refine jx_putf d_M_row_167 pf_M_118 (jx_up_s _ _ _) (Nat.le_of_ble_eq_true rfl) rfl rfl ?_
          refine jx_iconst (v := 3) d_M_row_170 (by decide) ?_
          exact jx_iret d_M_row_171 rfl (by omega) (by omega) (k3 n htn hn hok hcode _ ⟨mk, ki, st, nu, fa, fl, nn, si, wo, ti, va, so, hmk, jx_up_s _ _ _, (hO1.s_b _).s_b _, hF, hK, hS5, hS⟩ (((show mFr b M M1 from hf1).up (by omega) (by omega)).up (by omega) (by omega)))
        refine jx_aload_n (i := 0) d_M_row_151 rfl rfl ?_
        refine jx_dup d_M_row_152 rfl ?_
        refine jx_getf d_M_row_153 gf_M_118 (jx_up_s _ _ _) rfl ?_
        refine jx_iload d_M_row_156 rfl ?_
        refine jx_if_eq (tgt := 165) d_M_row_158 (by decide) (fun c158 => ?_) (fun c158 => ?_)
        · refine jx_iconst (v := 0) d_M_row_165 (by decide) ?_
          refine jx_iadd d_M_row_166 ?_
          rw [kf_b_ne c158] at fin ⊢
          exact fin
        · refine jx_iconst (v := 1) d_M_row_161 (by decide) ?_
          refine jx_goto (tgt := 166) d_M_row_162 (by decide) ?_
          refine jx_iadd d_M_row_166 ?_
          rw [kf_b_ne0 c158] at fin ⊢
          exact fin
    have aft : ∀ bo, bo = sp_lt gt la t → jx_V md_M_row [] G (jx_rm d 0 0) (jx_Q1 G 0 0 Z) 73 [some (.ref b), some (.long key), none, some (.long t), none, some (.long v), none, none, none, none] [.int (kf_b bo)] M1 sz 0 0 := by
      intro bo hbo
      refine jx_istore d_M_row_73 (Nat.le_of_ble_eq_true rfl) (jx_e10_7 (by trivial)) ?_
      refine jx_iload d_M_row_75 rfl ?_
      refine jx_if_eq (tgt := 122) d_M_row_77 (by decide) (fun c77 => ?_) (fun c77 => ?_)
      · exact keyed bo hbo (fun h => by have := kf_b_ne c77; rw [h.1] at this; cases this)
      · have hb1 := kf_b_ne0 c77
        refine jx_aload_n (i := 0) d_M_row_80 rfl rfl ?_
        refine jx_getf d_M_row_81 gf_M_91 hB1 rfl ?_
        refine jx_iconst (v := 2) d_M_row_84 (by decide) ?_
        refine jx_icmp_ge (tgt := 122) d_M_row_85 (by decide) (fun c85 => ?_) (fun c85 => ?_)
        · exact keyed bo hbo (fun h => by rcases h.2 with h9 | h9 <;> rw [h9] at c85 <;> exact absurd c85 (by decide))
        · have h01 : lr = 0 ∨ lr = 1 := by
            rcases hlr with h9 | h9 | h9
            · exact Or.inl h9
            · exact Or.inr h9
            · rw [h9] at c85
              exact absurd (by decide) c85
          have hlt9 : sp_lt gt la t = true := hbo.symm.trans hb1
          rw [hlt9] at k1 k2
          have hN2 : mW (jx_up M1 b (kf_M la wi en pe 0 nF b lr fr nK nS (kf_b (sp_wm gt)) mk lt nA nO tk (lc + 1) db fc le)) b la wi en pe 0 lr fr gt lt tk (lc + 1) db fc le nF fd fw nK nm kd nS sn nA ac nO oc := ⟨mk, ki, st, nu, fa, fl, nn, si, wo, ti, va, so, hmk, jx_up_s _ _ _, hO1.s_b _, hF, hK, hS5, hS⟩
          have hf2 : mFr b M (jx_up M1 b (kf_M la wi en pe 0 nF b lr fr nK nS (kf_b (sp_wm gt)) mk lt nA nO tk (lc + 1) db fc le)) := (show mFr b M M1 from hf1).up (by omega) (by omega)
          refine jx_aload_n (i := 0) d_M_row_88 rfl rfl ?_
          refine jx_dup d_M_row_89 rfl ?_
          refine jx_getf d_M_row_90 gf_M_118 hB1 rfl ?_
          refine jx_iconst (v := 1) d_M_row_93 (by decide) ?_
          refine jx_iadd d_M_row_94 ?_
          refine jx_putf d_M_row_95 pf_M_118 hB1 (Nat.le_of_ble_eq_true rfl) rfl rfl ?_
          refine jx_aload_n (i := 0) d_M_row_98 rfl rfl ?_
          refine jx_getf d_M_row_99 gf_M_91 (jx_up_s _ _ _) rfl ?_
          refine jx_iconst (v := 1) d_M_row_102 (by decide) ?_
          refine jx_icmp_ne (tgt := 115) d_M_row_103 (by decide) (fun c103 => ?_) (fun c103 => ?_)
          · have h0 : lr = 0 := h01.resolve_right c103
            refine jx_iconst (v := 1) d_M_row_115 (by decide) ?_
            refine jx_aload_n (i := 0) d_M_row_116 rfl rfl ?_
            refine jx_getf d_M_row_117 gf_M_91 (jx_up_s _ _ _) rfl ?_
            refine jx_iadd d_M_row_120 ?_
            rw [show (1 : Int32) + lr = 1 by rw [h0]; rfl]
            exact jx_iret d_M_row_121 rfl (by omega) (by omega) (k1 n htn hn hok (by show sp_co _ _ _ _ _ = 1; unfold sp_co; rw [if_pos ⟨hlt9, h0⟩]) _ hN2 hf2)
          · refine jx_aload_n (i := 0) d_M_row_106 rfl rfl ?_
            refine jx_lload_n (i := 1) d_M_row_107 rfl rfl ?_
            refine jx_lload_n (i := 3) d_M_row_108 rfl rfl ?_
            refine jx_lload d_M_row_109 rfl ?_
            refine jx_iconst (v := (-1)) d_M_row_111 (by decide) ?_
            refine jx_callV4 d_M_row_112 mv_M_121 (jx_up_s _ _ _) rfl (jx_ok_rm (by omega) (Nat.le_of_ble_eq_true rfl)) (Nat.le_of_ble_eq_true rfl) (jx_rmc (by omega)) (jx_rms (by omega)) (c_M_putAside (d := 0) hnA hN2 ?_)
            dsimp only [Option.toList, List.cons_append, List.nil_append]
            intro M3 hN3 hf3
            obtain ⟨mk3, ki3, st3, nu3, fa3, fl3, nn3, si3, wo3, ti3, va3, so3, hmk3, hB3, -⟩ := id hN3
            try dsimp only [Option.toList, List.cons_append, List.nil_append]
            refine jx_iconst (v := 1) d_M_row_115 (by decide) ?_
            refine jx_aload_n (i := 0) d_M_row_116 rfl rfl ?_
            refine jx_getf d_M_row_117 gf_M_91 hB3 rfl ?_
            refine jx_iadd d_M_row_120 ?_
            rw [show (1 : Int32) + lr = 2 by rw [c103]; rfl]
            exact jx_iret d_M_row_121 rfl (by omega) (by omega) (k2 n htn hn hok (by show sp_co _ _ _ _ _ = 2; unfold sp_co; rw [if_neg (fun h => by rw [c103] at h; exact absurd h.2 (by decide)), if_pos ⟨hlt9, c103⟩]) M3 hN3 (fun q hq => (hf3 q hq).trans (hf2 q hq)))
    refine jx_aload_n (i := 0) d_M_row_52 rfl rfl ?_
    refine jx_getf d_M_row_53 gf_M_110 hB1 rfl ?_
    refine jx_if_eq (tgt := 72) d_M_row_56 (by decide) (fun c56 => ?_) (fun c56 => ?_)
    · refine jx_iconst (v := 0) d_M_row_72 (by decide) ?_
      exact aft false (by rw [sp_lt, kf_b_ne c56]; rfl)
    · have hw := kf_b_ne0 c56
      refine jx_lload_n (i := 3) d_M_row_59 rfl rfl ?_
      refine jx_aload_n (i := 0) d_M_row_60 rfl rfl ?_
      refine jx_getf d_M_row_61 gf_M_114 hB1 rfl ?_
      refine jx_l_ge (tgt := 72) d_M_row_64 d_M_row_65 (by decide) (fun c64 => ?_) (fun c64 => ?_)
      · rw [hmk hw] at c64
        refine jx_iconst (v := 0) d_M_row_72 (by decide) ?_
        exact aft false (by rw [sp_lt, hw, decide_eq_false (fun h => l_nle h c64)]; rfl)
      · rw [hmk hw] at c64
        refine jx_iconst (v := 1) d_M_row_68 (by decide) ?_
        refine jx_goto (tgt := 73) d_M_row_69 (by decide) ?_
        exact aft true (by rw [sp_lt, hw, decide_eq_true (l_gt c64)]; rfl)
  refine jx_aload_n (i := 0) d_M_row_0 rfl rfl ?_
  refine jx_lload_n (i := 3) d_M_row_1 rfl rfl ?_
  refine jx_lconst (v := 0) d_M_row_2 (by decide) ?_
  refine jx_l_lt (tgt := 15) d_M_row_3 d_M_row_4 (by decide) (fun c3 => ?_) (fun c3 => ?_)
  · exact bad1 (fun h => h.1 c3)
  · refine jx_lload_n (i := 3) d_M_row_7 rfl rfl ?_
    refine jx_ldc2 d_M_row_8 rfl nv_M_104 ?_
    refine jx_l_le (tgt := 19) d_M_row_11 d_M_row_12 (by decide) (fun c11 => ?_) (fun c11 => ?_)
    · have hti : ¬ t < 0 ∧ t ≤ 1099511627776 := ⟨c3, c11⟩
      obtain ⟨n, hn63, htn⟩ := pk_lOf c3
      have hn : n ≤ 2 ^ 40 := by
        rw [htn, Int64.le_iff_toInt_le, pk_lT hn63, show (1099511627776 : Int64).toInt = 1099511627776 by decide] at c11
        omega
      refine jx_aload_n (i := 0) d_M_row_19 rfl rfl ?_
      refine jx_getf d_M_row_20 gf_M_71 hB rfl ?_
      refine jx_if_eq (tgt := 35) d_M_row_23 (by decide) (fun c23 => ?_) (fun c23 => ?_)
      · exact bad2 hti (fun h => h.1 ((nI_eq (b := 0) (by omega) (by omega)).mp c23))
      · have hF0 : nF ≠ 0 := fun h => c23 (by rw [h]; rfl)
        refine jx_aload_n (i := 0) d_M_row_26 rfl rfl ?_
        refine jx_lload_n (i := 1) d_M_row_27 rfl rfl ?_
        refine jx_callV1 d_M_row_28 mv_M_106 hB rfl (jx_ok_rm (by omega) (Nat.le_of_ble_eq_true rfl)) (Nat.le_of_ble_eq_true rfl) (jx_rmc (by omega)) (jx_rms (by omega)) (c_M_stopOf (d := 0) hN0 ?_)
        dsimp only [Option.toList, List.cons_append, List.nil_append]
        cases hst : sp_ix (fun j => sn j == key) nS with
        | none =>
          refine jx_iconst (v := (-1)) d_M_row_31 (by decide) ?_
          refine jx_icmp_eq (tgt := 39) d_M_row_32 (by decide) (fun c32 => ?_) (fun c32 => ?_)
          · refine jx_iconst (v := 0) d_M_row_39 (by decide) ?_
            refine jx_putf d_M_row_40 pf_M_67 hB (Nat.le_of_ble_eq_true rfl) rfl rfl ?_
            refine jx_aload_n (i := 0) d_M_row_43 rfl rfl ?_
            refine jx_getf d_M_row_44 gf_M_67 (jx_up_s _ _ _) rfl ?_
            refine jx_if_le (tgt := 52) d_M_row_47 (by decide) (fun c47 => ?_) (fun c47 => ?_)
            · exact good n htn hn ⟨hF0, hst⟩
            · exact absurd (by decide) c47
          · exact absurd kf_ix_none c32
        | some i =>
          have hi := (sp_ix_lt hst).1
          refine jx_iconst (v := (-1)) d_M_row_31 (by decide) ?_
          refine jx_icmp_eq (tgt := 39) d_M_row_32 (by decide) (fun c32 => ?_) (fun c32 => ?_)
          · exact absurd c32 (nI_m1 (by omega))
          · exact bad2 hti (fun h => by rw [h.2] at hst; cases hst)
    · exact bad1 (fun h => c11 h.2)
end CM15
