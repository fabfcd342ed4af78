/-! PART 51: the reference: row -/
theorem sp_in_at (tm : Nat → Int64) (n pl : Nat) (t : Int64) (i : Nat) : sp_in tm n pl t i = if i = pl then t else if pl < i ∧ i ≤ n then tm (i - 1) else tm i := rfl
theorem sp_so_tq {q : sp_key} {fd : sp_fd} {nF n : Nat} {t v : Int64} (h : sp_so q) (ht : t = lN n) (hn : n ≤ 2 ^ 40) : sp_so (sp_tq fd nF t v q) := by
  have ht1 : t + 1 = lN (n + 1) := by rw [ht, lN_1]
  have lt1 : ∀ x : Int64, x < t + 1 ↔ x ≤ t := by
    intro x
    rw [Int64.lt_iff_toInt_lt, Int64.le_iff_toInt_le, ht1, ht, pk_lT (by omega), pk_lT (by omega)]
    omega
  have hpl : sp_tp t q ≤ q.1 := sp_ld_le _ _
  have hlo : ∀ i, i < sp_tp t q → q.2.2.1 i ≤ t := fun i hi => (lt1 _).mp (of_decide_eq_true (sp_ld_lt (P := fun j => decide (q.2.2.1 j < t + 1)) hi))
  have hhi : ∀ i, sp_tp t q ≤ i → i < q.1 → t ≤ q.2.2.1 i := fun i h1 h2 => l_le (l_gt (fun hh => sp_so_ge h h1 h2 ((lt1 _).mpr hh)))
  intro i i' hii hi'
  show sp_in q.2.2.1 q.1 (sp_tp t q) t i ≤ sp_in q.2.2.1 q.1 (sp_tp t q) t i'
  have hi9 : i' < q.1 + 1 := hi'
  generalize sp_tp t q = pl at *
  rw [sp_in_at, sp_in_at]
  by_cases e1 : i = pl
  · rw [if_pos e1]
    by_cases e2 : i' = pl
    · rw [if_pos e2]
      exact l_refl t
    · rw [if_neg e2, if_pos (by omega)]
      exact hhi _ (by omega) (by omega)
  · rw [if_neg e1]
    by_cases e2 : i' = pl
    · rw [if_pos e2, if_neg (by omega)]
      exact hlo _ (by omega)
    · rw [if_neg e2]
      by_cases e3 : pl < i
      · rw [if_pos (by omega), if_pos (by omega)]
        exact h _ _ (by omega) (by omega)
      · rw [if_neg (by omega)]
        by_cases e4 : pl < i'
        · rw [if_pos (by omega)]
          exact h _ _ (by omega) (by omega)
        · rw [if_neg (by omega)]
          exact h _ _ (by omega) (by omega)
theorem sp_so_lv {q : sp_key} {fd : sp_fd} {nF : Nat} {thr : Int64} (h : sp_so q) : sp_so (sp_lv fd nF thr q) := by
  unfold sp_lv
  split
  · exact h
  · intro i i' hii hi'
    have hi9 : i' < q.1 - sp_lg thr q := hi'
    show sp_rm q.2.2.1 q.1 (sp_lg thr q) i ≤ sp_rm q.2.2.1 q.1 (sp_lg thr q) i'
    unfold sp_rm
    rw [if_pos (by omega), if_pos (by omega)]
    exact h _ _ (by omega) (by omega)
theorem sp_tr_tq {q : sp_key} {fd : sp_fd} {nF n : Nat} {t v : Int64} (h : sp_tr q) (ht : t = lN n) (hn : n ≤ 2 ^ 40) : sp_tr (sp_tq fd nF t v q) := by
  have hpl : sp_tp t q ≤ q.1 := sp_ld_le _ _
  intro i hi
  have hi9 : i < q.1 + 1 := hi
  show ∃ n, n ≤ 2 ^ 40 ∧ sp_in q.2.2.1 q.1 (sp_tp t q) t i = lN n
  rw [sp_in_at]
  by_cases e1 : i = sp_tp t q
  · rw [if_pos e1]
    exact ⟨n, hn, ht⟩
  · rw [if_neg e1]
    by_cases e3 : sp_tp t q < i
    · rw [if_pos (by omega)]
      exact h _ (by omega)
    · rw [if_neg (by omega)]
      exact h _ (by omega)
theorem sp_tr_lv {q : sp_key} {fd : sp_fd} {nF : Nat} {thr : Int64} (h : sp_tr q) : sp_tr (sp_lv fd nF thr q) := by
  unfold sp_lv
  split
  · exact h
  · intro i hi
    have hi9 : i < q.1 - sp_lg thr q := hi
    show ∃ n, n ≤ 2 ^ 40 ∧ sp_rm q.2.2.1 q.1 (sp_lg thr q) i = lN n
    unfold sp_rm
    rw [if_pos (by omega)]
    exact h _ (by omega)
theorem sp_so_k0 {fd : sp_fd} {nF : Nat} : sp_so (sp_k0 fd nF) := fun i i' _ h => absurd h (Nat.not_lt_zero _)
theorem sp_tr_k0 {fd : sp_fd} {nF : Nat} : sp_tr (sp_k0 fd nF) := fun i h => absurd h (Nat.not_lt_zero _)
/-- what holds of every key holds of every key behind a row taken -/
theorem sp_all {Pq : sp_key → Prop} {fd : sp_fd} {nF nK : Nat} {wi : Int32} {thr t v : Int64} {kd : Nat → sp_key} {r : Option Nat} (h1 : ∀ q, Pq q → Pq (sp_tq fd nF t v q)) (h2 : ∀ q, Pq q → Pq (sp_lv fd nF thr q)) (h0 : Pq (sp_k0 fd nF)) (hr : ∀ j, r = some j → j < nK) (h : ∀ j, j < nK → Pq (kd j)) : ∀ i, i < sp_nk r nK → Pq (sp_lk fd nF wi thr (sp_nk r nK) (sp_nd r nK kd fd nF t v) i) := by
  have hd : ∀ i, i < sp_nk r nK → Pq (sp_nd r nK kd fd nF t v i) := by
    intro i hi
    cases r with
    | some j =>
      show Pq (va_up kd j (sp_tq fd nF t v (kd j)) i)
      by_cases e : i = j
      · rw [e, va_up_s]
        exact h1 _ (h j (hr j rfl))
      · rw [va_up_n _ _ e]
        exact h i hi
    | none =>
      show Pq (va_up kd nK (sp_tq fd nF t v (sp_k0 fd nF)) i)
      have hi9 : i < nK + 1 := hi
      by_cases e : i = nK
      · rw [e, va_up_s]
        exact h1 _ h0
      · rw [va_up_n _ _ e]
        exact h i (by omega)
  intro i hi
  unfold sp_lk
  split
  · exact hd i hi
  · show Pq (if i < sp_nk r nK then sp_lv fd nF thr (sp_nd r nK kd fd nF t v i) else sp_nd r nK kd fd nF t v i)
    rw [if_pos hi]
    exact h2 _ (hd i hi)
section CM14
variable {G : jx_G} {d b nF nK sz nS nA nO : Nat} {la wi en pe cd lr fr tk lc db fc le : Int32} {gt lt t v key : Int64} {nm : Nat → Int64} {kd : Nat → sp_key} {fd : sp_fd} {fw : Nat → Nat → Int64} {sn ac oc : Nat → Int64} {M : jx_H} {Z : Option Value → jx_H → Nat → Prop} {bo : Bool} {r : Option Nat}
/-- the row is taken, if there is room -/
theorem v_M_row4 {P T g A W n : Nat} {thr : Int64} {y : Int32} (hd : 4 < d) (ht : t = lN n) (hn : n ≤ 2 ^ 40) (hW : wi = nI W) (hW1 : W ≤ 100000) (hP : pe = nI P) (hP1 : P ≤ 100000) (hA : la = nI A) (hA1 : A ≤ 100000) (hg : sp_gt gt g) (hg1 : g ≤ 2 ^ 40) (hlt0 : lt = lN T) (hT : T ≤ (g - A) / P * P) (hdv : P ∣ T) (hthr : thr = lN (max g n) - la.toInt64 - wi.toInt64) (hso : ∀ i, i < nK → sp_so (kd i)) (hnO : nO < 2 ^ 27) (hr : sp_ix (fun j => nm j == key) nK = r) (hN : mW M b la wi en pe 0 lr fr gt lt tk lc db fc le nF fd fw nK nm kd nS sn nA ac nO oc)
    (kx : sp_rf r nK (fun j => (kd j).1) = false → ∀ M', mW M' b la wi en pe 2 lr fr gt lt tk lc db fc le nF fd fw nK nm kd nS sn nA ac nO oc → mFr b M M' → Z (some (.int 0)) M' sz)
    (k : sp_rf r nK (fun j => (kd j).1) = true → ∀ M', mW M' b la wi en pe 0 lr fr (lN (max g n)) (lN (sp_tT (max g n) A P T)) (tk + 1) (lc + kf_b bo) db fc (sp_ll wi thr (sp_nk r nK) (sp_nd r nK kd fd nF t v) le) nF fd fw (sp_nk r nK) (sp_nn r nK nm key) (sp_lk fd nF wi thr (sp_nk r nK) (sp_nd r nK kd fd nF t v)) nS sn nA ac ((sp_to nF fd (sp_nn r nK nm key) (sp_lk fd nF wi thr (sp_nk r nK) (sp_nd r nK kd fd nF t v)) (sp_nk r nK) (max g n) A P T (nO, oc)).1) ((sp_to nF fd (sp_nn r nK nm key) (sp_lk fd nF wi thr (sp_nk r nK) (sp_nd r nK kd fd nF t v)) (sp_nk r nK) (max g n) A P T (nO, oc)).2) → mFr b M M' → Z (some (.int 0)) M' sz) :
    jx_V md_M_row [] G (jx_rm d 0 0) (jx_Q1 G 0 0 Z) 267 [some (.ref b), some (.long key), none, some (.long t), none, some (.long v), none, some (.int (kf_b bo)), some (.int (kf_ix r)), some (.int y)] [] M sz 0 0 := by
  have hso2 : ∀ i, i < sp_nk r nK → sp_so (sp_lk fd nF wi thr (sp_nk r nK) (sp_nd r nK kd fd nF t v) i) := sp_all (fun q h => sp_so_tq h ht hn) (fun q h => sp_so_lv h) sp_so_k0 (fun j hj => (sp_ix_lt (hr.trans hj)).1) hso
  obtain ⟨mk, ki, st, nu, fa, fl, nn, si, wo, ti, va, so, hmk, hB, hO, hF, hK, hS5, hS⟩ := id hN
  obtain ⟨h1, h2, h3, h4, h5, h6, h7, h8, h9, h10, h11, h12, h13⟩ := id hO
  have hnK := hK.1
  have hU : ∀ cd' : Int32, mW (jx_up M b (kf_M la wi en pe cd' nF b lr fr nK nS (kf_b (sp_wm gt)) mk lt nA nO tk lc db fc le)) b la wi en pe cd' lr fr gt lt tk lc db fc le nF fd fw nK nm kd nS sn nA ac nO oc := fun cd' => ⟨mk, ki, st, nu, fa, fl, nn, si, wo, ti, va, so, hmk, jx_up_s _ _ _, hO.s_b _, hF, hK, hS5, hS⟩
  have bad : sp_rf r nK (fun j => (kd j).1) = false → jx_V md_M_row [] G (jx_rm d 0 0) (jx_Q1 G 0 0 Z) 308 [some (.ref b), some (.long key), none, some (.long t), none, some (.long v), none, some (.int (kf_b bo)), some (.int (kf_ix r)), some (.int y)] [.int 2, .ref b] M sz 0 0 := by
    intro hx
    refine jx_putf d_M_row_308 pf_M_67 hB (Nat.le_of_ble_eq_true rfl) rfl rfl ?_
    refine jx_aload_n (i := 0) d_M_row_311 rfl rfl ?_
    refine jx_getf d_M_row_312 gf_M_67 (jx_up_s _ _ _) rfl ?_
    refine jx_if_le (tgt := 320) d_M_row_315 (by decide) (fun c315 => ?_) (fun c315 => ?_)
    · exact absurd c315 (by decide)
    · refine jx_iconst (v := 0) d_M_row_318 (by decide) ?_
      exact jx_iret d_M_row_319 rfl (by omega) (by omega) (kx hx _ (hU 2) (fun q hq => jx_up_n _ _ (by omega)))
  have late : ∀ (M1 : jx_H) (lN1 : Nat) (nm1 : Nat → Int64) (kd1 : Nat → sp_key) (jj : Nat), mW M1 b la wi en pe 0 lr fr gt lt tk lc db fc le nF fd fw lN1 nm1 kd1 nS sn nA ac nO oc → mFr b M M1 → (∀ M2, mW M2 b la wi en pe 0 lr fr gt lt tk (lc + kf_b bo) db fc le nF fd fw lN1 nm1 kd1 nS sn nA ac nO oc → mFr b M1 M2 → jx_V md_M_row [] G (jx_rm d 0 0) (jx_Q1 G 0 0 Z) 369 [some (.ref b), some (.long key), none, some (.long t), none, some (.long v), none, none, some (.int (nI jj)), none] [] M2 sz 0 0) → jx_V md_M_row [] G (jx_rm d 0 0) (jx_Q1 G 0 0 Z) 350 [some (.ref b), some (.long key), none, some (.long t), none, some (.long v), none, some (.int (kf_b bo)), some (.int (nI jj)), none] [] M1 sz 0 0 := by
    intro M1 nK1 nm1 kd1 jj hN1 hf1 k1
    obtain ⟨mk1, ki1, st1, nu1, fa1, fl1, nn1, si1, wo1, ti1, va1, so1, hmk1, hB1, hO1, hF1, hK1, hS51, hS1⟩ := id hN1
    have fin : jx_V md_M_row [] G (jx_rm d 0 0) (jx_Q1 G 0 0 Z) 366 [some (.ref b), some (.long key), none, some (.long t), none, some (.long v), none, some (.int (kf_b bo)), some (.int (nI jj)), none] [.int (lc + kf_b bo), .ref b] M1 sz 0 0 := by
      refine jx_putf d_M_row_366 pf_M_118 hB1 (Nat.le_of_ble_eq_true rfl) rfl rfl ?_
      refine jx_wk (l' := [some (.ref b), some (.long key), none, some (.long t), none, some (.long v), none, none, some (.int (nI jj)), none]) (by simp [jx_le]) ?_
      exact k1 _ ⟨mk1, ki1, st1, nu1, fa1, fl1, nn1, si1, wo1, ti1, va1, so1, hmk1, jx_up_s _ _ _, hO1.s_b _, hF1, hK1, hS51, hS1⟩ (fun q hq => jx_up_n _ _ (by omega))
    refine jx_aload_n (i := 0) d_M_row_350 rfl rfl ?_
    refine jx_dup d_M_row_351 rfl ?_
    refine jx_getf d_M_row_352 gf_M_118 hB1 rfl ?_
    refine jx_iload d_M_row_355 rfl ?_
    refine jx_if_eq (tgt := 364) d_M_row_357 (by decide) (fun c357 => ?_) (fun c357 => ?_)
    · refine jx_iconst (v := 0) d_M_row_364 (by decide) ?_
      refine jx_iadd d_M_row_365 ?_
      rw [kf_b_ne c357] at fin ⊢
      exact fin
    · refine jx_iconst (v := 1) d_M_row_360 (by decide) ?_
      refine jx_goto (tgt := 365) d_M_row_361 (by decide) ?_
      refine jx_iadd d_M_row_365 ?_
      rw [kf_b_ne0 c357] at fin ⊢
      exact fin
  cases r with
  | none =>
    refine jx_aload_n (i := 0) d_M_row_267 rfl rfl ?_
    refine jx_iload d_M_row_268 rfl ?_
    refine jx_iconst (v := (-1)) d_M_row_270 (by decide) ?_
    refine jx_icmp_ne (tgt := 291) d_M_row_271 (by decide) (fun c271 => ?_) (fun c271 => ?_)
    · exact absurd kf_ix_none c271
    · have good : nK < 30 → jx_V md_M_row [] G (jx_rm d 0 0) (jx_Q1 G 0 0 Z) 308 [some (.ref b), some (.long key), none, some (.long t), none, some (.long v), none, some (.int (kf_b bo)), some (.int (kf_ix none)), some (.int y)] [.int 0, .ref b] M sz 0 0 := by
        intro h30
        have hk := k (by simp [sp_rf, h30])
        refine jx_putf d_M_row_308 pf_M_67 hB (Nat.le_of_ble_eq_true rfl) rfl rfl ?_
        refine jx_aload_n (i := 0) d_M_row_311 rfl rfl ?_
        refine jx_getf d_M_row_312 gf_M_67 (jx_up_s _ _ _) rfl ?_
        refine jx_if_le (tgt := 320) d_M_row_315 (by decide) (fun c315 => ?_) (fun c315 => ?_)
        · refine jx_iload d_M_row_320 rfl ?_
          refine jx_iconst (v := (-1)) d_M_row_322 (by decide) ?_
          refine jx_icmp_ne (tgt := 350) d_M_row_323 (by decide) (fun c323 => ?_) (fun c323 => ?_)
          · exact absurd kf_ix_none c323
          · refine jx_aload_n (i := 0) d_M_row_326 rfl rfl ?_
            refine jx_getf d_M_row_327 gf_M_74 (jx_up_s _ _ _) rfl ?_
            refine jx_istore d_M_row_330 (Nat.le_of_ble_eq_true rfl) (jx_e10_8 (by trivial)) ?_
            refine jx_aload_n (i := 0) d_M_row_332 rfl rfl ?_
            refine jx_getf d_M_row_333 gf_M_26 (jx_up_s _ _ _) rfl ?_
            refine jx_iload d_M_row_336 rfl ?_
            refine jx_lload_n (i := 1) d_M_row_338 rfl rfl ?_
            refine jx_lastj d_M_row_339 ((jx_up_n _ _ (by omega)).trans h6) rfl h30 (by omega) ?_
            have u1 : ∀ (M9 : jx_H) (e : jx_E), M9 b = some (kf_M la wi en pe 0 nF b lr fr nK nS (kf_b (sp_wm gt)) mk lt nA nO tk lc db fc le) → jx_up M9 (b + 6) e b = some (kf_M la wi en pe 0 nF b lr fr nK nS (kf_b (sp_wm gt)) mk lt nA nO tk lc db fc le) := fun M9 e h9 => (jx_up_n _ _ (by omega)).trans h9
            refine jx_aload_n (i := 0) d_M_row_340 rfl rfl ?_
            refine jx_dup d_M_row_341 rfl ?_
            refine jx_getf d_M_row_342 gf_M_74 (u1 _ _ (jx_up_s _ _ _)) rfl ?_
            refine jx_iconst (v := 1) d_M_row_345 (by decide) ?_
            refine jx_iadd d_M_row_346 ?_
            refine jx_putf d_M_row_347 pf_M_74 (u1 _ _ (jx_up_s _ _ _)) (Nat.le_of_ble_eq_true rfl) rfl rfl ?_
            rw [nI_1]
            refine jx_wk (l' := [some (.ref b), some (.long key), none, some (.long t), none, some (.long v), none, some (.int (kf_b bo)), some (.int (nI nK)), none]) (by simp [jx_le]) ?_
            refine late _ (nK + 1) (va_up nm nK key) (va_up kd nK (sp_k0 fd nF)) nK ⟨mk, ki, st, nu, fa, fl, vp_updL nn nK key, si, wo, ti, va, so, hmk, jx_up_s _ _ _, ((hO.s_b _).s_nn _).s_b _, hF, ⟨by omega, fun i hi => ?_, fun i hi hi2 => hK.2.2 i (by omega) hi2⟩, hS5, hS⟩ ((((mFr.refl b M).up (by omega) (by omega)).up (by omega) (by omega)).up (by omega) (by omega)) ?_
            · by_cases e : i = nK
              · rw [e, va_up_s, va_up_s, updL_s, (hK.2.2 nK (Nat.le_refl _) h30).1, (hK.2.2 nK (Nat.le_refl _) h30).2]
                exact ⟨Nat.zero_le _, rfl, rfl, rfl, fun q hq => absurd hq (Nat.not_lt_zero _)⟩
              · rw [va_up_n _ _ e, va_up_n _ _ e, updL_n _ _ e]
                exact hK.2.1 i (by omega)
            · intro M2 hN2 hf2
              obtain ⟨mk2, ki2, st2, nu2, fa2, fl2, nn2, si2, wo2, ti2, va2, so2, hmk2, hB2, -⟩ := id hN2
              have e9 : va_up (va_up kd nK (sp_k0 fd nF)) nK (sp_tq fd nF t v (va_up kd nK (sp_k0 fd nF) nK)) = va_up kd nK (sp_tq fd nF t v (sp_k0 fd nF)) := by rw [va_up_s, va_up_u]
              refine jx_aload_n (i := 0) d_M_row_369 rfl rfl ?_
              refine jx_iload d_M_row_370 rfl ?_
              refine jx_lload_n (i := 3) d_M_row_372 rfl rfl ?_
              refine jx_lload d_M_row_373 rfl ?_
              refine jx_callV3 d_M_row_375 mv_M_141 hB2 rfl (jx_ok_rm (by omega) (Nat.le_of_ble_eq_true rfl)) (Nat.le_of_ble_eq_true rfl) (jx_rmc (by omega)) (jx_rms (by omega)) (c_M_take (d := 4) (P := P) (T := T) (g := g) (A := A) (W := W) (n := n) (thr := thr) (by omega) (show nK < nK + 1 by omega) (by rw [va_up_s]; show 0 < 60; omega) ht hn hW hW1 hP hP1 hA hA1 hg hg1 hlt0 hT hdv hthr (by rw [va_up_s]; exact sp_so_k0) (by rw [e9]; exact hso2) hnO hN2 ?_)
              dsimp only [Option.toList, List.cons_append, List.nil_append]
              intro M3 hN3 hf3
              rw [e9] at hN3
              try dsimp only [Option.toList, List.cons_append, List.nil_append]
              refine jx_iconst (v := 0) d_M_row_378 (by decide) ?_
              exact jx_iret d_M_row_379 rfl (by omega) (by omega) (hk M3 hN3 (fun q hq => (hf3 q hq).trans ((hf2 q hq).trans ((jx_up_n _ _ (by omega)).trans ((jx_up_n _ _ (by omega)).trans (jx_up_n _ _ (by omega)))))))
        · exact absurd (by decide) c315
      refine jx_aload_n (i := 0) d_M_row_274 rfl rfl ?_
      refine jx_getf d_M_row_275 gf_M_74 hB rfl ?_
      refine jx_bipush (v := 30) d_M_row_278 (by decide) ?_
      refine jx_icmp_ne (tgt := 287) d_M_row_280 (by decide) (fun c280 => ?_) (fun c280 => ?_)
      · refine jx_iconst (v := 0) d_M_row_287 (by decide) ?_
        refine jx_goto (tgt := 308) d_M_row_288 (by decide) ?_
        refine good ?_
        have : nK ≠ 30 := fun h => c280 (by rw [h]; rfl)
        omega
      · have h30 : nK = 30 := (nI_eq (b := 30) (by omega) (by omega)).mp c280
        refine jx_iconst (v := 2) d_M_row_283 (by decide) ?_
        refine jx_goto (tgt := 308) d_M_row_284 (by decide) ?_
        exact bad (by simp [sp_rf, h30])
  | some j =>
    have hj := (sp_ix_lt hr).1
    obtain ⟨g1, g2, g3, g4, g5⟩ := hK.2.1 j hj
    rw [kf_ix_some] at bad ⊢
    refine jx_aload_n (i := 0) d_M_row_267 rfl rfl ?_
    refine jx_iload d_M_row_268 rfl ?_
    refine jx_iconst (v := (-1)) d_M_row_270 (by decide) ?_
    refine jx_icmp_ne (tgt := 291) d_M_row_271 (by decide) (fun c271 => ?_) (fun c271 => ?_)
    · have good : (kd j).1 < 60 → jx_V md_M_row [] G (jx_rm d 0 0) (jx_Q1 G 0 0 Z) 308 [some (.ref b), some (.long key), none, some (.long t), none, some (.long v), none, some (.int (kf_b bo)), some (.int (nI j)), some (.int y)] [.int 0, .ref b] M sz 0 0 := by
        intro h60
        have hk := k (by simp [sp_rf, h60])
        refine jx_putf d_M_row_308 pf_M_67 hB (Nat.le_of_ble_eq_true rfl) rfl rfl ?_
        refine jx_aload_n (i := 0) d_M_row_311 rfl rfl ?_
        refine jx_getf d_M_row_312 gf_M_67 (jx_up_s _ _ _) rfl ?_
        refine jx_if_le (tgt := 320) d_M_row_315 (by decide) (fun c315 => ?_) (fun c315 => ?_)
        · refine jx_iload d_M_row_320 rfl ?_
          refine jx_iconst (v := (-1)) d_M_row_322 (by decide) ?_
          refine jx_icmp_ne (tgt := 350) d_M_row_323 (by decide) (fun c323 => ?_) (fun c323 => ?_)
          · refine jx_wk (l' := [some (.ref b), some (.long key), none, some (.long t), none, some (.long v), none, some (.int (kf_b bo)), some (.int (nI j)), none]) (by simp [jx_le]) ?_
            refine late _ nK nm kd j (hU 0) (fun q hq => jx_up_n _ _ (by omega)) ?_
            intro M2 hN2 hf2
            obtain ⟨mk2, ki2, st2, nu2, fa2, fl2, nn2, si2, wo2, ti2, va2, so2, hmk2, hB2, -⟩ := id hN2
            refine jx_aload_n (i := 0) d_M_row_369 rfl rfl ?_
            refine jx_iload d_M_row_370 rfl ?_
            refine jx_lload_n (i := 3) d_M_row_372 rfl rfl ?_
            refine jx_lload d_M_row_373 rfl ?_
            refine jx_callV3 d_M_row_375 mv_M_141 hB2 rfl (jx_ok_rm (by omega) (Nat.le_of_ble_eq_true rfl)) (Nat.le_of_ble_eq_true rfl) (jx_rmc (by omega)) (jx_rms (by omega)) (c_M_take (d := 4) (P := P) (T := T) (g := g) (A := A) (W := W) (n := n) (thr := thr) (by omega) hj h60 ht hn hW hW1 hP hP1 hA hA1 hg hg1 hlt0 hT hdv hthr (hso j hj) hso2 hnO hN2 ?_)
            dsimp only [Option.toList, List.cons_append, List.nil_append]
            intro M3 hN3 hf3
            try dsimp only [Option.toList, List.cons_append, List.nil_append]
            refine jx_iconst (v := 0) d_M_row_378 (by decide) ?_
            exact jx_iret d_M_row_379 rfl (by omega) (by omega) (hk M3 hN3 (fun q hq => (hf3 q hq).trans ((hf2 q hq).trans (jx_up_n _ _ (by omega)))))
          · exact absurd c323 (nI_m1 (by omega))
        · exact absurd (by decide) c315
      refine jx_aload_n (i := 0) d_M_row_291 rfl rfl ?_
      refine jx_getf d_M_row_292 gf_M_29 hB rfl ?_
      refine jx_iload d_M_row_295 rfl ?_
      refine jx_ialdj d_M_row_297 h7 rfl (by omega) (by omega) ?_
      refine jx_bipush (v := 60) d_M_row_298 (by decide) ?_
      refine jx_icmp_ne (tgt := 307) d_M_row_300 (by decide) (fun c300 => ?_) (fun c300 => ?_)
      · rw [g3] at c300
        refine jx_iconst (v := 0) d_M_row_307 (by decide) ?_
        refine good ?_
        have : (kd j).1 ≠ 60 := fun h => c300 (by rw [h]; rfl)
        omega
      · rw [g3] at c300
        have h60 : (kd j).1 = 60 := (nI_eq (b := 60) (by omega) (by omega)).mp c300
        refine jx_iconst (v := 2) d_M_row_303 (by decide) ?_
        refine jx_goto (tgt := 308) d_M_row_304 (by decide) ?_
        exact bad (by simp [sp_rf, h60])
    · exact absurd c271 (nI_m1 (by omega))
end CM14
