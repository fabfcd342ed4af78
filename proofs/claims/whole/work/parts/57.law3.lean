/-! PART 57: the law: its changing cases (by wip/whole/gen/ops2.py) -/
theorem JI.ok {G : jx_G} {M1 M2 : jx_H} {a c sz A P lo far kar nF nK nS nA nO g T q : Nat} {la wi en pe cd lr fr tk lc db fc le : Int32} {gt lt : Int64} {fo ko : Nat → Nat} {nm : Nat → Int64} {kd : Nat → sp_key} {fd : sp_fd} {fw : Nat → Nat → Int64} {sn ac oc f : Nat → Int64} (hW : kW G M1 a lo far kar la wi en pe lr fr gt lt tk lc db fc le nF fo fd fw nK ko nm kd nS sn nA ac nO oc) (hN : mW M2 (a + 9) la wi en pe cd lr fr gt lt tk lc db fc le nF fd fw nK nm kd nS sn nA ac nO oc) (hf : mFr (a + 9) (jx_up M1 (a + 23) (kf_la 1 f)) M2) (hlo : lo ≤ sz) (hP : sp_J G c A P kar lr fr gt lt tk nF fd nK kd nS nA nO g T q) : JI G a c la wi en pe A P M2 sz :=
  ⟨lo, far, kar, lr, fr, gt, lt, tk, lc, db, fc, le, nF, fo, fd, fw, nK, ko, nm, kd, nS, sn, nA, ac, nO, oc, cd, f, g, T, q, hW.to (fun q hq => (hf q (by omega)).trans (jx_up_n _ _ (by omega))), hN, (hf _ (by omega)).trans (jx_up_s _ _ _), hlo, hP⟩
theorem JI.ok0 {G : jx_G} {M1 M2 : jx_H} {a c sz A P lo far kar nF nK nS nA nO g T q : Nat} {la wi en pe cd lr fr tk lc db fc le : Int32} {gt lt : Int64} {fo ko : Nat → Nat} {nm : Nat → Int64} {kd : Nat → sp_key} {fd : sp_fd} {fw : Nat → Nat → Int64} {sn ac oc f : Nat → Int64} (hW : kW G M1 a lo far kar la wi en pe lr fr gt lt tk lc db fc le nF fo fd fw nK ko nm kd nS sn nA ac nO oc) (hN : mW M2 (a + 9) la wi en pe cd lr fr gt lt tk lc db fc le nF fd fw nK nm kd nS sn nA ac nO oc) (hf : mFr (a + 9) M1 M2) (hout : M1 (a + 23) = some (kf_la 1 f)) (hlo : lo ≤ sz) (hP : sp_J G c A P kar lr fr gt lt tk nF fd nK kd nS nA nO g T q) : JI G a c la wi en pe A P M2 sz :=
  ⟨lo, far, kar, lr, fr, gt, lt, tk, lc, db, fc, le, nF, fo, fd, fw, nK, ko, nm, kd, nS, sn, nA, ac, nO, oc, cd, f, g, T, q, hW.to (fun q hq => hf q (by omega)), hN, (hf _ (by omega)).trans hout, hlo, hP⟩
theorem sp_r3 {x : Int32} (h : ¬ x < 0 ∧ x ≤ 2) : x = 0 ∨ x = 1 ∨ x = 2 := by
  obtain ⟨j, hj, rfl⟩ := nI_of2 (M := 2) (n := 2) (by decide) h.1 h.2
  rcases (show j = 0 ∨ j = 1 ∨ j = 2 by omega) with rfl | rfl | rfl
  · exact Or.inl (by decide)
  · exact Or.inr (Or.inl (by decide))
  · exact Or.inr (Or.inr (by decide))
theorem sp_k8 {x : Int32} {kn : Nat} (h : kn ≤ 8) (hx : x = nI kn) : ¬ x < 0 ∧ x ≤ 8 := by
  subst hx
  have := (show ∀ kn, kn ≤ 8 → ¬ nI kn < 0 ∧ nI kn ≤ 8 by decide +kernel)
  exact this kn h
theorem sp_t40 {t : Int64} {n : Nat} (ht : t = lN n) (hn : n ≤ 2 ^ 40) : ¬ t < 0 ∧ t ≤ 1099511627776 := by
  subst ht
  rw [Int64.lt_iff_toInt_lt, Int64.le_iff_toInt_le, pk_lT (by omega), show (1099511627776 : Int64).toInt = 1099511627776 by decide, show (0 : Int64).toInt = 0 by decide]
  omega
theorem sp_kC0 {G : jx_G} {M M' : jx_H} {a lo lo' nF nF' : Nat} {ko : Nat → Nat} {nm : Nat → Int64} {kd : Nat → sp_key} (h : kC_K G M a lo nF (jx_ea G) 0 ko nm kd) (hf : M' (a + 2) = M (a + 2)) : kC_K G M' a lo' nF' (jx_ea G) 0 ko nm kd := by
  obtain ⟨⟨⟨mo, h1⟩, -⟩, -⟩ := h
  exact ⟨⟨⟨mo, hf.trans h1⟩, Or.inl ⟨rfl, rfl⟩⟩, by omega, Or.inl ⟨rfl, rfl⟩, fun j hj => absurd hj (Nat.not_lt_zero _), fun i j _ hj => absurd hj (Nat.not_lt_zero _)⟩
theorem sp_si_fd {fd : sp_fd} {nF f x y : Nat} {q : sp_key} (h : sp_si fd nF q) : sp_si (va_up fd f ((fd f).1, (fd f).2.1, (fd f).2.2.1, x, y)) nF q := by
  intro f' hf'
  have h1 := h f' hf'
  by_cases he : f' = f
  · subst he
    rw [va_up_s]
    exact h1
  · rw [va_up_n _ _ he]
    exact h1
theorem sp_dt_le (nF : Nat) (fd : sp_fd) (nm : Nat → Int64) (kd : Nat → sp_key) (nK L P : Nat) : ∀ (b : Nat) (r : Nat × (Nat → Int64)), (sp_dt nF fd nm kd nK L P b r).1 ≤ r.1 + b * nK := by
  intro b
  induction b with
  | zero => intro r; simp [sp_dt]
  | succ b ih =>
    intro r
    have h1 := ih (sp_tl nF fd nm kd (lN L - lN b * lN P) nK r)
    have h2 := sp_tl_le nF fd nm kd (lN L - lN b * lN P) nK r
    simp only [sp_dt]
    rw [Nat.succ_mul]
    omega
theorem sp_to_le {nF : Nat} {fd : sp_fd} {nm : Nat → Int64} {kd : Nat → sp_key} {nK g A P T : Nat} {r : Nat × (Nat → Int64)} (hK : nK ≤ 30) : (sp_to nF fd nm kd nK g A P T r).1 ≤ r.1 + 600 := by
  unfold sp_to
  split
  · omega
  · have h1 := sp_dt_le nF fd nm kd nK ((g - A) / P * P) P (min (((g - A) / P * P - T) / P) 20) r
    have h2 : min (((g - A) / P * P - T) / P) 20 * nK ≤ 20 * 30 := Nat.mul_le_mul (Nat.min_le_right _ _) hK
    omega
theorem sp_tT_ok {g g' A P T : Nat} (hg : g ≤ g') (hT : T ≤ (g - A) / P * P) (hd : P ∣ T) : sp_tT g' A P T ≤ (g' - A) / P * P ∧ P ∣ sp_tT g' A P T := by
  unfold sp_tT
  split
  · exact ⟨Nat.le_trans hT (Nat.mul_le_mul_right _ (Nat.div_le_div_right (by omega))), hd⟩
  · exact ⟨Nat.le_refl _, Nat.dvd_mul_left _ _⟩
theorem sp_J.take {G : jx_G} {c A P kar kar' : Nat} {wi lr fr : Int32} {gt lt t v thr : Int64} {tk : Int32} {nF : Nat} {fd : sp_fd} {nK : Nat} {kd : Nat → sp_key} {nS nA nO g T q n : Nat} {nm oc : Nat → Int64} {r : Option Nat} (h : sp_J G c A P kar lr fr gt lt tk nF fd nK kd nS nA nO g T q) (hK' : sp_nk r nK ≤ 30) (hk8 : ∀ f, f < nF → (fd f).1 ≤ 8) (hrk : ∀ j, r = some j → j < nK) (ht : t = lN n) (hn : n ≤ 2 ^ 40) : sp_J G (c + 1) A P kar' lr fr (lN (max g n)) (lN (sp_tT (max g n) A P T)) (tk + 1) nF fd (sp_nk r nK) (sp_lk fd nF wi thr (sp_nk r nK) (sp_nd r nK kd fd nF t v)) nS nA ((sp_to nF fd nm (sp_lk fd nF wi thr (sp_nk r nK) (sp_nd r nK kd fd nF t v)) (sp_nk r nK) (max g n) A P T (nO, oc)).1) (max g n) (sp_tT (max g n) A P T) (q + 1) := by
  obtain ⟨⟨a1, a2, a3, a4, a4'⟩, b1, b2, b3, ⟨b4, b5, b6⟩, b7, b8, b9⟩ := h
  obtain ⟨x1, x2⟩ := sp_tT_ok (g' := max g n) (Nat.le_max_left _ _) a4 a4'
  have y1 := sp_all (Pq := sp_so) (wi := wi) (fun q hq => sp_so_tq (fd := fd) (nF := nF) (v := v) hq ht hn) (fun q hq => sp_so_lv (thr := thr) hq) sp_so_k0 hrk (fun j hj => (b2 j hj).1)
  have y2 := sp_all (Pq := sp_tr) (wi := wi) (fun q hq => sp_tr_tq (fd := fd) (nF := nF) (v := v) hq ht hn) (fun q hq => sp_tr_lv (thr := thr) hq) sp_tr_k0 hrk (fun j hj => (b2 j hj).2.1)
  have y3 := sp_all (Pq := sp_si fd nF) (wi := wi) (fun q hq => sp_si_tq (t := t) (v := v) hk8 hq) (fun q hq => sp_si_lv (thr := thr) hk8 hq) sp_si_k0 hrk (fun j hj => (b2 j hj).2.2)
  have z := sp_to_le (nF := nF) (fd := fd) (nm := nm) (kd := sp_lk fd nF wi thr (sp_nk r nK) (sp_nd r nK kd fd nF t v)) (nK := sp_nk r nK) (g := max g n) (A := A) (P := P) (T := T) (r := (nO, oc)) hK'
  have hne : sp_nk r nK ≠ 0 := by
    intro h0
    cases r with
    | none => simp [sp_nk] at h0
    | some j => exact absurd (hrk j rfl) (by simp only [sp_nk] at h0; omega)
  refine ⟨⟨Or.inr rfl, by omega, rfl, x1, x2⟩, b1, fun j hj => ⟨y1 j hj, y2 j hj, y3 j hj⟩, fun h0 => absurd h0 hne, ⟨by rw [b4, nI_1], by omega, ⟨fun _ => by omega, fun _ => hne⟩⟩, by omega, by omega, ?_⟩
  · have z' : (nO, oc).1 = nO := rfl
    omega
/-- no key yet: no row was taken -/
theorem sp_tkn {nK q : Nat} {tk : Int32} (h1 : tk = nI q) (hq : q < 2 ^ 31) (h : nK ≠ 0 ↔ 0 < q) : nK = 0 ↔ ¬ 0 < tk := by
  have e : (0 : Int32) < tk ↔ 0 < q := by
    rw [h1]
    exact ⟨fun h0 => Nat.pos_of_ne_zero (fun hz => by subst hz; exact absurd h0 (by rw [nI_0]; decide)), fun h0 => nI_0 ▸ nI_lt h0 (by omega)⟩
  rw [e, ← h]
  exact ⟨fun h0 h9 => h9 h0, fun h0 => Decidable.byContradiction h0⟩
section OPS2
variable {G : jx_G} {R : Room} {Q : Array Value → State → List Frame → State → Prop} {a c sz kc ks A Wd P : Nat} {la wi en pe : Int32} {M : jx_H}
theorem o_rule (hRm : 12 ≤ R.frames ∧ 482 ≤ R.locals) (hc : kc + 5 ≤ R.cells) (hs : ks + 178 ≤ R.slots) (hl : jx_sl G ≤ 3588) (hi : 4 + 7 * c + 7 ≤ jx_sl G) (hset : sp_set la wi en pe A Wd P) (hJ : JI G a c la wi en pe A P M sz) (k : ∀ M' sz', JI G a (c + 1) la wi en pe A P M' sz' → jx_V md_L_law [] G R Q 1411 [some (.ref (jx_sa G)), some (.ref a), some (.ref (a + 9)), some (.ref (a + 23)), some (.int (nI (4 + 7 * c))), none, none, none] [] M' sz' (kc + 5) (ks + 178)) : jx_V md_L_law [] G R Q 396 [some (.ref (jx_sa G)), some (.ref a), some (.ref (a + 9)), some (.ref (a + 23)), some (.int (nI (4 + 7 * c))), none, none, none] [] M sz kc ks := by
  obtain ⟨lo, far, kar, lr, fr, gt, lt, tk, lc, db, fc, le, nF, fo, fd, fw, nK, ko, nm, kd, nS, sn, nA, ac, nO, oc, cd, ou, g, T, q, hW, hN, hout, hlo, hP⟩ := hJ
  obtain ⟨w1, w2, w3, w4, w5, w6, w7, w8, w9⟩ := id hW
  obtain ⟨hP1, hP2, hq, hP4, hP5, hP6, hP7, hP8⟩ := id hP
  have hnF := w8.1.2.1
  have hnK := w9.2.1
  obtain ⟨mk, ki, st, nu, fa, fl, nn, si, wo, ti, va, so, hmk, hB, -⟩ := id hN
  have fin : ∀ M2 sz2 cd2 ou2, sz ≤ sz2 → mW M2 (a + 9) la wi en pe cd2 lr fr gt lt tk lc db fc le nF fd fw nK nm kd nS sn nA ac nO oc → (∀ q, (a ≤ q ∧ q ≤ a + 8) ∨ a + 24 ≤ q → M2 q = M q) → M2 (a + 23) = some (kf_la 1 ou2) → JI G a (c + 1) la wi en pe A P M2 sz2 := fun M2 sz2 cd2 ou2 s1 s2 s3 s4 => ⟨lo, far, kar, lr, fr, gt, lt, tk, lc, db, fc, le, nF, fo, fd, fw, nK, ko, nm, kd, nS, sn, nA, ac, nO, oc, cd2, ou2, g, T, q, hW.to s3, s2, s4, by omega, hP.step⟩
  refine jx_aload_n (i := 1) d_L_law_396 rfl rfl ?_
  refine jx_aload_n (i := 0) d_L_law_397 rfl rfl ?_
  refine jx_iload d_L_law_398 rfl ?_
  refine jx_iconst (v := 1) d_L_law_400 (by decide) ?_
  refine jx_iadd d_L_law_401 ?_
  refine jx_sldj d_L_law_402 (es1 _) (by omega) (by assumption) ?_
  refine jx_aload_n (i := 0) d_L_law_403 rfl rfl ?_
  refine jx_iload d_L_law_404 rfl ?_
  refine jx_iconst (v := 2) d_L_law_406 (by decide) ?_
  refine jx_iadd d_L_law_407 ?_
  refine jx_sldj d_L_law_408 (es2 _) (by omega) (by assumption) ?_
  refine jx_aload_n (i := 3) d_L_law_409 rfl rfl ?_
  refine jx_callH (hh2 := mh_L_rule) (As := [.ref a, .int _, .int _, .ref (a + 23)]) d_L_law_410 mk_L_96 pn_rule (jx_okl hRm (show 10 ≤ 10 by omega) (Nat.le_of_ble_eq_true rfl)) rfl rfl (Nat.le_of_ble_eq_true rfl) (by omega) (by omega) (c_L_rule (d := 10) (by omega) w1 (fun Z2 ZX2 h0 h1 => c_K_rule (d := 9) (by omega) w1 (fun e1 e2 => h0 _ ou _ _ ((jx_up_n _ _ (by omega)).trans hout) ?_) (fun e1 e2 => h0 _ ou _ _ ((jx_up_n _ _ (by omega)).trans hout) ?_) (fun e1 sz' hsz => h1 _ _ ?_)))
  · try dsimp only [Option.toList, List.cons_append, List.nil_append]
    generalize hM1 : jx_up M a _ = M1
    have u1 := (congrFun hM1 a).symm.trans (jx_up_s _ _ _)
    have un : ∀ q, q ≠ a → M1 q = M q := fun q hq => by rw [← hM1]; exact jx_up_n _ _ hq
    have fr1 : ∀ q, a + 9 ≤ q → q < a + 24 → M1 q = M q := fun q q1 q2 => un q (by omega)
    have hW1 := hW.set (M' := M1) u1 ((un _ (by omega)).trans w2) ((un _ (by omega)).trans w3) ((un _ (by omega)).trans w4) ((un _ (by omega)).trans w5) ((un _ (by omega)).trans w6) ((un _ (by omega)).trans w7) (fun q hq => un q (by omega))
    have hN1 := fun e => hN.to (M' := jx_up M1 (a + 23) e) (fun q q1 q2 => (jx_up_n _ _ (by omega)).trans (fr1 q (by omega) (by omega)))
    have hB1 := fun e => (jx_up_n M1 e (show a + 9 ≠ a + 23 by omega)).trans ((fr1 _ (by omega) (by omega)).trans hB)
    refine jx_istore d_L_law_413 (Nat.le_of_ble_eq_true rfl) (jx_e8_5 (by trivial)) ?_
    refine jx_aload_n (i := 2) d_L_law_415 rfl rfl ?_
    refine jx_aload_n (i := 0) d_L_law_416 rfl rfl ?_
    refine jx_iload d_L_law_417 rfl ?_
    refine jx_iconst (v := 1) d_L_law_419 (by decide) ?_
    refine jx_iadd d_L_law_420 ?_
    refine jx_sldj d_L_law_421 (es1 _) (by omega) (by assumption) ?_
    refine jx_aload_n (i := 0) d_L_law_422 rfl rfl ?_
    refine jx_iload d_L_law_423 rfl ?_
    refine jx_iconst (v := 2) d_L_law_425 (by decide) ?_
    refine jx_iadd d_L_law_426 ?_
    refine jx_sldj d_L_law_427 (es2 _) (by omega) (by assumption) ?_
    refine jx_callV2 d_L_law_428 mv_L_99 (hB1 _) rfl (jx_okl hRm (by omega) (Nat.le_of_ble_eq_true rfl)) (Nat.le_of_ble_eq_true rfl) (by omega) (by omega) (c_M_rule (d := 10) (hN1 _) (fun _ _ M2 hN2 hf2 => ?_) (fun h => absurd (e1.symm.trans h) (by decide)) (fun h => absurd ⟨by rw [e1]; decide, e2⟩ h))
    try dsimp only [Option.toList, List.cons_append, List.nil_append]
    · try dsimp only [Option.toList, List.cons_append, List.nil_append]
      refine jx_istore d_L_law_431 (Nat.le_of_ble_eq_true rfl) (jx_e8_6 (by trivial)) ?_
      exact t0_rule (jx_okl hRm (by omega) (by omega)) (by omega) (by omega) hN2 ((hf2 _ (by omega)).trans (jx_up_s _ _ _)) (jx_wi (by omega) (by omega) (k M2 _ (JI.ok hW1 hN2 hf2 hlo ⟨hP1, ⟨sp_r3 e2, hP2.2⟩, hq, hP4, ⟨hP5.1, by omega, hP5.2.2⟩, by omega, by omega, by omega⟩)))
  · try dsimp only [Option.toList, List.cons_append, List.nil_append]
    generalize hM1 : jx_up M a _ = M1
    have u1 := (congrFun hM1 a).symm.trans (jx_up_s _ _ _)
    have un : ∀ q, q ≠ a → M1 q = M q := fun q hq => by rw [← hM1]; exact jx_up_n _ _ hq
    have fr1 : ∀ q, a + 9 ≤ q → q < a + 24 → M1 q = M q := fun q q1 q2 => un q (by omega)
    have hW1 := hW.set (M' := M1) u1 ((un _ (by omega)).trans w2) ((un _ (by omega)).trans w3) ((un _ (by omega)).trans w4) ((un _ (by omega)).trans w5) ((un _ (by omega)).trans w6) ((un _ (by omega)).trans w7) (fun q hq => un q (by omega))
    have hN1 := fun e => hN.to (M' := jx_up M1 (a + 23) e) (fun q q1 q2 => (jx_up_n _ _ (by omega)).trans (fr1 q (by omega) (by omega)))
    have hB1 := fun e => (jx_up_n M1 e (show a + 9 ≠ a + 23 by omega)).trans ((fr1 _ (by omega) (by omega)).trans hB)
    refine jx_istore d_L_law_413 (Nat.le_of_ble_eq_true rfl) (jx_e8_5 (by trivial)) ?_
    refine jx_aload_n (i := 2) d_L_law_415 rfl rfl ?_
    refine jx_aload_n (i := 0) d_L_law_416 rfl rfl ?_
    refine jx_iload d_L_law_417 rfl ?_
    refine jx_iconst (v := 1) d_L_law_419 (by decide) ?_
    refine jx_iadd d_L_law_420 ?_
    refine jx_sldj d_L_law_421 (es1 _) (by omega) (by assumption) ?_
    refine jx_aload_n (i := 0) d_L_law_422 rfl rfl ?_
    refine jx_iload d_L_law_423 rfl ?_
    refine jx_iconst (v := 2) d_L_law_425 (by decide) ?_
    refine jx_iadd d_L_law_426 ?_
    refine jx_sldj d_L_law_427 (es2 _) (by omega) (by assumption) ?_
    refine jx_callV2 d_L_law_428 mv_L_99 (hB1 _) rfl (jx_okl hRm (by omega) (Nat.le_of_ble_eq_true rfl)) (Nat.le_of_ble_eq_true rfl) (by omega) (by omega) (c_M_rule (d := 10) (hN1 _) (fun h => absurd (h.symm.trans e1) (by decide)) (fun _ _ M2 hN2 hf2 => ?_) (fun h => absurd ⟨by rw [e1]; decide, e2⟩ h))
    try dsimp only [Option.toList, List.cons_append, List.nil_append]
    · try dsimp only [Option.toList, List.cons_append, List.nil_append]
      refine jx_istore d_L_law_431 (Nat.le_of_ble_eq_true rfl) (jx_e8_6 (by trivial)) ?_
      exact t0_rule (jx_okl hRm (by omega) (by omega)) (by omega) (by omega) hN2 ((hf2 _ (by omega)).trans (jx_up_s _ _ _)) (jx_wi (by omega) (by omega) (k M2 _ (JI.ok hW1 hN2 hf2 hlo ⟨hP1, ⟨hP2.1, sp_r3 e2⟩, hq, hP4, ⟨hP5.1, by omega, hP5.2.2⟩, by omega, by omega, by omega⟩)))
  · try dsimp only [Option.toList, List.cons_append, List.nil_append]
    have hN1 := hN
    have hB1 := hB
    refine jx_istore d_L_law_413 (Nat.le_of_ble_eq_true rfl) (jx_e8_5 (by trivial)) ?_
    refine jx_aload_n (i := 2) d_L_law_415 rfl rfl ?_
    refine jx_aload_n (i := 0) d_L_law_416 rfl rfl ?_
    refine jx_iload d_L_law_417 rfl ?_
    refine jx_iconst (v := 1) d_L_law_419 (by decide) ?_
    refine jx_iadd d_L_law_420 ?_
    refine jx_sldj d_L_law_421 (es1 _) (by omega) (by assumption) ?_
    refine jx_aload_n (i := 0) d_L_law_422 rfl rfl ?_
    refine jx_iload d_L_law_423 rfl ?_
    refine jx_iconst (v := 2) d_L_law_425 (by decide) ?_
    refine jx_iadd d_L_law_426 ?_
    refine jx_sldj d_L_law_427 (es2 _) (by omega) (by assumption) ?_
    refine jx_callV2 d_L_law_428 mv_L_99 hB1 rfl (jx_okl hRm (by omega) (Nat.le_of_ble_eq_true rfl)) (Nat.le_of_ble_eq_true rfl) (by omega) (by omega) (c_M_rule (d := 10) hN1 (fun h h2 => absurd ⟨by rw [h]; decide, h2⟩ e1) (fun h h2 => absurd ⟨by rw [h]; decide, h2⟩ e1) (fun _ M2 hN2 hf2 => ?_))
    try dsimp only [Option.toList, List.cons_append, List.nil_append]
    · try dsimp only [Option.toList, List.cons_append, List.nil_append]
      refine jx_istore d_L_law_431 (Nat.le_of_ble_eq_true rfl) (jx_e8_6 (by trivial)) ?_
      exact tx_rule (jx_okl hRm (by omega) (by omega)) (by omega) (by omega) (by decide) hN2 (jx_wi (by omega) (by omega) (k M2 _ (fin M2 _ _ _ hsz hN2 (fun q hq => hf2 q (by omega)) ((hf2 _ (by omega)).trans hout))))
theorem o_resume (hRm : 12 ≤ R.frames ∧ 482 ≤ R.locals) (hc : kc + 5 ≤ R.cells) (hs : ks + 178 ≤ R.slots) (hl : jx_sl G ≤ 3588) (hi : 4 + 7 * c + 7 ≤ jx_sl G) (hset : sp_set la wi en pe A Wd P) (hJ : JI G a c la wi en pe A P M sz) (k : ∀ M' sz', JI G a (c + 1) la wi en pe A P M' sz' → jx_V md_L_law [] G R Q 1411 [some (.ref (jx_sa G)), some (.ref a), some (.ref (a + 9)), some (.ref (a + 23)), some (.int (nI (4 + 7 * c))), none, none, none] [] M' sz' (kc + 5) (ks + 178)) : jx_V md_L_law [] G R Q 642 [some (.ref (jx_sa G)), some (.ref a), some (.ref (a + 9)), some (.ref (a + 23)), some (.int (nI (4 + 7 * c))), none, none, none] [] M sz kc ks := by
  obtain ⟨lo, far, kar, lr, fr, gt, lt, tk, lc, db, fc, le, nF, fo, fd, fw, nK, ko, nm, kd, nS, sn, nA, ac, nO, oc, cd, ou, g, T, q, hW, hN, hout, hlo, hP⟩ := hJ
  obtain ⟨w1, w2, w3, w4, w5, w6, w7, w8, w9⟩ := id hW
  obtain ⟨hP1, hP2, hq, hP4, hP5, hP6, hP7, hP8⟩ := id hP
  have hnF := w8.1.2.1
  have hnK := w9.2.1
  obtain ⟨mk, ki, st, nu, fa, fl, nn, si, wo, ti, va, so, hmk, hB, -⟩ := id hN
  have fin : ∀ M2 sz2 cd2 ou2, sz ≤ sz2 → mW M2 (a + 9) la wi en pe cd2 lr fr gt lt tk lc db fc le nF fd fw nK nm kd nS sn nA ac nO oc → (∀ q, (a ≤ q ∧ q ≤ a + 8) ∨ a + 24 ≤ q → M2 q = M q) → M2 (a + 23) = some (kf_la 1 ou2) → JI G a (c + 1) la wi en pe A P M2 sz2 := fun M2 sz2 cd2 ou2 s1 s2 s3 s4 => ⟨lo, far, kar, lr, fr, gt, lt, tk, lc, db, fc, le, nF, fo, fd, fw, nK, ko, nm, kd, nS, sn, nA, ac, nO, oc, cd2, ou2, g, T, q, hW.to s3, s2, s4, by omega, hP.step⟩
  refine jx_aload_n (i := 1) d_L_law_642 rfl rfl ?_
  refine jx_aload_n (i := 0) d_L_law_643 rfl rfl ?_
  refine jx_iload d_L_law_644 rfl ?_
  refine jx_iconst (v := 1) d_L_law_646 (by decide) ?_
  refine jx_iadd d_L_law_647 ?_
  refine jx_sldj d_L_law_648 (es1 _) (by omega) (by assumption) ?_
  refine jx_i2l d_L_law_649 ?_
  refine jx_bipush (v := 32) d_L_law_650 (by decide) ?_
  refine jx_lshl d_L_law_652 ?_
  refine jx_aload_n (i := 0) d_L_law_653 rfl rfl ?_
  refine jx_iload d_L_law_654 rfl ?_
  refine jx_iconst (v := 2) d_L_law_656 (by decide) ?_
  refine jx_iadd d_L_law_657 ?_
  refine jx_sldj d_L_law_658 (es2 _) (by omega) (by assumption) ?_
  refine jx_i2l d_L_law_659 ?_
  refine jx_ldc2 d_L_law_660 rfl nv_L_82 ?_
  refine jx_land d_L_law_663 ?_
  refine jx_lor d_L_law_664 ?_
  refine jx_callH (hh2 := mh_L_resume) (As := [.ref a, .long _]) d_L_law_665 mk_L_104 pn_resume (jx_okl hRm (show 10 ≤ 10 by omega) (Nat.le_of_ble_eq_true rfl)) rfl rfl (Nat.le_of_ble_eq_true rfl) (by omega) (by omega) (c_L_resume (d := 10) (by omega) w1 (fun Z2 ZX2 h0 h1 => c_K_resume (d := 9) (by omega) (by omega) w1 w2 w3 (fun i e1 => h0 _ _ ?_) (fun e1 sz' hsz => h1 _ _ ?_)))
  · try dsimp only [Option.toList, List.cons_append, List.nil_append]
    generalize hM1 : jx_up (jx_up M (a + 3) _) (a + 4) _ = M1
    have u1 : M1 (a + 3) = some (kf_S (a + 4) (nS - 1)) := by rw [← hM1]; exact (jx_up_n _ _ (by omega)).trans (jx_up_s _ _ _)
    have u2 : M1 (a + 4) = some (kf_la 512 (vp_updL sn i (sn (nS - 1)))) := by rw [← hM1]; exact jx_up_s _ _ _
    have un : ∀ q, q ≠ a + 3 → q ≠ a + 4 → M1 q = M q := fun q hq hq2 => by rw [← hM1]; exact (jx_up_n _ _ hq2).trans (jx_up_n _ _ hq)
    have fr1 : ∀ q, a + 9 ≤ q → q < a + 24 → M1 q = M q := fun q q1 q2 => un q (by omega) (by omega)
    have hW1 := hW.set (M' := M1) ((un _ (by omega) (by omega)).trans w1) u1 u2 ((un _ (by omega) (by omega)).trans w4) ((un _ (by omega) (by omega)).trans w5) ((un _ (by omega) (by omega)).trans w6) ((un _ (by omega) (by omega)).trans w7) (fun q hq => un q (by omega) (by omega))
    have hN1 := hN.to (M' := M1) (fun q q1 q2 => fr1 q (by omega) (by omega))
    have hB1 := (fr1 (a + 9) (by omega) (by omega)).trans hB
    refine jx_istore d_L_law_668 (Nat.le_of_ble_eq_true rfl) (jx_e8_5 (by trivial)) ?_
    refine jx_aload_n (i := 2) d_L_law_670 rfl rfl ?_
    refine jx_aload_n (i := 0) d_L_law_671 rfl rfl ?_
    refine jx_iload d_L_law_672 rfl ?_
    refine jx_iconst (v := 1) d_L_law_674 (by decide) ?_
    refine jx_iadd d_L_law_675 ?_
    refine jx_sldj d_L_law_676 (es1 _) (by omega) (by assumption) ?_
    refine jx_i2l d_L_law_677 ?_
    refine jx_bipush (v := 32) d_L_law_678 (by decide) ?_
    refine jx_lshl d_L_law_680 ?_
    refine jx_aload_n (i := 0) d_L_law_681 rfl rfl ?_
    refine jx_iload d_L_law_682 rfl ?_
    refine jx_iconst (v := 2) d_L_law_684 (by decide) ?_
    refine jx_iadd d_L_law_685 ?_
    refine jx_sldj d_L_law_686 (es2 _) (by omega) (by assumption) ?_
    refine jx_i2l d_L_law_687 ?_
    refine jx_ldc2 d_L_law_688 rfl nv_L_82 ?_
    refine jx_land d_L_law_691 ?_
    refine jx_lor d_L_law_692 ?_
    refine jx_callV1 d_L_law_693 mv_L_107 hB1 rfl (jx_okl hRm (by omega) (Nat.le_of_ble_eq_true rfl)) (Nat.le_of_ble_eq_true rfl) (by omega) (by omega) (c_M_resume (d := 10) (by omega) hN1 (fun i2 g1 M2 hN2 hf2 => ?_) (fun h => by rw [e1] at h; cases h))
    try dsimp only [Option.toList, List.cons_append, List.nil_append]
    · try dsimp only [Option.toList, List.cons_append, List.nil_append]
      obtain rfl : i2 = i := Option.some.inj (g1.symm.trans e1)
      exact t0_resume (jx_okl hRm (by omega) (by omega)) (by omega) (by omega) hN2 (jx_wi (by omega) (by omega) (k M2 _ (JI.ok0 hW1 hN2 hf2 ((fr1 _ (by omega) (by omega)).trans hout) hlo ⟨hP1, hP2, hq, hP4, ⟨hP5.1, by omega, hP5.2.2⟩, by omega, by omega, by omega⟩)))
  · try dsimp only [Option.toList, List.cons_append, List.nil_append]
    have hN1 := hN
    have hB1 := hB
    refine jx_istore d_L_law_668 (Nat.le_of_ble_eq_true rfl) (jx_e8_5 (by trivial)) ?_
    refine jx_aload_n (i := 2) d_L_law_670 rfl rfl ?_
    refine jx_aload_n (i := 0) d_L_law_671 rfl rfl ?_
    refine jx_iload d_L_law_672 rfl ?_
    refine jx_iconst (v := 1) d_L_law_674 (by decide) ?_
    refine jx_iadd d_L_law_675 ?_
    refine jx_sldj d_L_law_676 (es1 _) (by omega) (by assumption) ?_
    refine jx_i2l d_L_law_677 ?_
    refine jx_bipush (v := 32) d_L_law_678 (by decide) ?_
    refine jx_lshl d_L_law_680 ?_
    refine jx_aload_n (i := 0) d_L_law_681 rfl rfl ?_
    refine jx_iload d_L_law_682 rfl ?_
    refine jx_iconst (v := 2) d_L_law_684 (by decide) ?_
    refine jx_iadd d_L_law_685 ?_
    refine jx_sldj d_L_law_686 (es2 _) (by omega) (by assumption) ?_
    refine jx_i2l d_L_law_687 ?_
    refine jx_ldc2 d_L_law_688 rfl nv_L_82 ?_
    refine jx_land d_L_law_691 ?_
    refine jx_lor d_L_law_692 ?_
    refine jx_callV1 d_L_law_693 mv_L_107 hB1 rfl (jx_okl hRm (by omega) (Nat.le_of_ble_eq_true rfl)) (Nat.le_of_ble_eq_true rfl) (by omega) (by omega) (c_M_resume (d := 10) (by omega) hN1 (fun i h => by rw [e1] at h; cases h) (fun _ M2 hN2 hf2 => ?_))
    try dsimp only [Option.toList, List.cons_append, List.nil_append]
    · try dsimp only [Option.toList, List.cons_append, List.nil_append]
      exact tx_resume (jx_okl hRm (by omega) (by omega)) (by omega) (by omega) (by decide) hN2 (jx_wi (by omega) (by omega) (k M2 _ (fin M2 _ _ _ hsz hN2 (fun q hq => hf2 q (by omega)) ((hf2 _ (by omega)).trans hout))))
theorem o_failsAt (hRm : 12 ≤ R.frames ∧ 482 ≤ R.locals) (hc : kc + 5 ≤ R.cells) (hs : ks + 178 ≤ R.slots) (hl : jx_sl G ≤ 3588) (hi : 4 + 7 * c + 7 ≤ jx_sl G) (hset : sp_set la wi en pe A Wd P) (hJ : JI G a c la wi en pe A P M sz) (k : ∀ M' sz', JI G a (c + 1) la wi en pe A P M' sz' → jx_V md_L_law [] G R Q 1411 [some (.ref (jx_sa G)), some (.ref a), some (.ref (a + 9)), some (.ref (a + 23)), some (.int (nI (4 + 7 * c))), none, none, none] [] M' sz' (kc + 5) (ks + 178)) : jx_V md_L_law [] G R Q 296 [some (.ref (jx_sa G)), some (.ref a), some (.ref (a + 9)), some (.ref (a + 23)), some (.int (nI (4 + 7 * c))), none, none, none] [] M sz kc ks := by
  obtain ⟨lo, far, kar, lr, fr, gt, lt, tk, lc, db, fc, le, nF, fo, fd, fw, nK, ko, nm, kd, nS, sn, nA, ac, nO, oc, cd, ou, g, T, q, hW, hN, hout, hlo, hP⟩ := hJ
  obtain ⟨w1, w2, w3, w4, w5, w6, w7, w8, w9⟩ := id hW
  obtain ⟨hP1, hP2, hq, hP4, hP5, hP6, hP7, hP8⟩ := id hP
  have hnF := w8.1.2.1
  have hnK := w9.2.1
  obtain ⟨mk, ki, st, nu, fa, fl, nn, si, wo, ti, va, so, hmk, hB, -⟩ := id hN
  have fin : ∀ M2 sz2 cd2 ou2, sz ≤ sz2 → mW M2 (a + 9) la wi en pe cd2 lr fr gt lt tk lc db fc le nF fd fw nK nm kd nS sn nA ac nO oc → (∀ q, (a ≤ q ∧ q ≤ a + 8) ∨ a + 24 ≤ q → M2 q = M q) → M2 (a + 23) = some (kf_la 1 ou2) → JI G a (c + 1) la wi en pe A P M2 sz2 := fun M2 sz2 cd2 ou2 s1 s2 s3 s4 => ⟨lo, far, kar, lr, fr, gt, lt, tk, lc, db, fc, le, nF, fo, fd, fw, nK, ko, nm, kd, nS, sn, nA, ac, nO, oc, cd2, ou2, g, T, q, hW.to s3, s2, s4, by omega, hP.step⟩
  refine jx_aload_n (i := 1) d_L_law_296 rfl rfl ?_
  refine jx_aload_n (i := 0) d_L_law_297 rfl rfl ?_
  refine jx_iload d_L_law_298 rfl ?_
  refine jx_iconst (v := 1) d_L_law_300 (by decide) ?_
  refine jx_iadd d_L_law_301 ?_
  refine jx_sldj d_L_law_302 (es1 _) (by omega) (by assumption) ?_
  refine jx_aload_n (i := 0) d_L_law_303 rfl rfl ?_
  refine jx_iload d_L_law_304 rfl ?_
  refine jx_iconst (v := 2) d_L_law_306 (by decide) ?_
  refine jx_iadd d_L_law_307 ?_
  refine jx_sldj d_L_law_308 (es2 _) (by omega) (by assumption) ?_
  refine jx_i2l d_L_law_309 ?_
  refine jx_bipush (v := 32) d_L_law_310 (by decide) ?_
  refine jx_lshl d_L_law_312 ?_
  refine jx_aload_n (i := 0) d_L_law_313 rfl rfl ?_
  refine jx_iload d_L_law_314 rfl ?_
  refine jx_iconst (v := 3) d_L_law_316 (by decide) ?_
  refine jx_iadd d_L_law_317 ?_
  refine jx_sldj d_L_law_318 (es3 _) (by omega) (by assumption) ?_
  refine jx_i2l d_L_law_319 ?_
  refine jx_ldc2 d_L_law_320 rfl nv_L_82 ?_
  refine jx_land d_L_law_323 ?_
  refine jx_lor d_L_law_324 ?_
  refine jx_aload_n (i := 3) d_L_law_325 rfl rfl ?_
  refine jx_callH (hh2 := mh_L_failsAt) (As := [.ref a, .int _, .long _, .ref (a + 23)]) d_L_law_326 mk_L_92 pn_failsAt (jx_okl hRm (show 10 ≤ 10 by omega) (Nat.le_of_ble_eq_true rfl)) rfl rfl (Nat.le_of_ble_eq_true rfl) (by omega) (by omega) (c_L_failsAt (d := 10) (by omega) w1 (fun Z2 ZX2 h0 h1 h2 => c_K_failsAt (d := 9) (by omega) w1 w8 (fun f e1 e2 e3 e4 M1 hF1 un => h0 _ ou _ _ ((un _ (by omega)).trans hout) ?_) (fun e1 sz' hsz => h1 _ _ ?_) (fun f e1 e2 e3 sz' hsz => h2 _ _ ?_)))
  · try dsimp only [Option.toList, List.cons_append, List.nil_append]
    have h24 := w8.2.2.1
    have fr1 : ∀ q, a + 9 ≤ q → q < a + 24 → M1 q = M q := fun q q1 q2 => un q (by omega)
    have hW1 : kW G M1 a _ _ _ _ _ _ _ _ _ _ _ _ _ _ _ _ _ _ _ _ _ _ _ _ _ _ _ _ _ _ := ⟨(un _ (by omega)).trans w1, (un _ (by omega)).trans w2, (un _ (by omega)).trans w3, (un _ (by omega)).trans w4, (un _ (by omega)).trans w5, (un _ (by omega)).trans w6, (un _ (by omega)).trans w7, hF1, w9.toA (fun q hq => un q (by omega))⟩
    have hN1 := fun e => hN.to (M' := jx_up M1 (a + 23) e) (fun q q1 q2 => (jx_up_n _ _ (by omega)).trans (fr1 q (by omega) (by omega)))
    have hB1 := fun e => (jx_up_n M1 e (show a + 9 ≠ a + 23 by omega)).trans ((fr1 _ (by omega) (by omega)).trans hB)
    refine jx_istore d_L_law_329 (Nat.le_of_ble_eq_true rfl) (jx_e8_5 (by trivial)) ?_
    refine jx_aload_n (i := 2) d_L_law_331 rfl rfl ?_
    refine jx_aload_n (i := 0) d_L_law_332 rfl rfl ?_
    refine jx_iload d_L_law_333 rfl ?_
    refine jx_iconst (v := 1) d_L_law_335 (by decide) ?_
    refine jx_iadd d_L_law_336 ?_
    refine jx_sldj d_L_law_337 (es1 _) (by omega) (by assumption) ?_
    refine jx_aload_n (i := 0) d_L_law_338 rfl rfl ?_
    refine jx_iload d_L_law_339 rfl ?_
    refine jx_iconst (v := 2) d_L_law_341 (by decide) ?_
    refine jx_iadd d_L_law_342 ?_
    refine jx_sldj d_L_law_343 (es2 _) (by omega) (by assumption) ?_
    refine jx_i2l d_L_law_344 ?_
    refine jx_bipush (v := 32) d_L_law_345 (by decide) ?_
    refine jx_lshl d_L_law_347 ?_
    refine jx_aload_n (i := 0) d_L_law_348 rfl rfl ?_
    refine jx_iload d_L_law_349 rfl ?_
    refine jx_iconst (v := 3) d_L_law_351 (by decide) ?_
    refine jx_iadd d_L_law_352 ?_
    refine jx_sldj d_L_law_353 (es3 _) (by omega) (by assumption) ?_
    refine jx_i2l d_L_law_354 ?_
    refine jx_ldc2 d_L_law_355 rfl nv_L_82 ?_
    refine jx_land d_L_law_358 ?_
    refine jx_lor d_L_law_359 ?_
    refine jx_callV2 d_L_law_360 mv_L_95 (hB1 _) rfl (jx_okl hRm (by omega) (Nat.le_of_ble_eq_true rfl)) (Nat.le_of_ble_eq_true rfl) (by omega) (by omega) (c_M_failsAt (d := 10) (by omega) (hN1 _) (fun f2 g1 g2 g3 g4 M2 hN2 hf2 => ?_) (fun h => absurd (by rw [e2, nI_toInt (by omega)]; omega) h) (fun f2 g1 g2 g3 => absurd (by rw [(nI_eq (by omega) (by omega)).mp (g2.symm.trans e2)]; exact ⟨e3, e4⟩) g3))
    try dsimp only [Option.toList, List.cons_append, List.nil_append]
    · try dsimp only [Option.toList, List.cons_append, List.nil_append]
      obtain rfl : f2 = f := (nI_eq (by omega) (by omega)).mp (g2.symm.trans e2)
      refine jx_istore d_L_law_363 (Nat.le_of_ble_eq_true rfl) (jx_e8_6 (by trivial)) ?_
      exact t0_failsAt (jx_okl hRm (by omega) (by omega)) (by omega) (by omega) hN2 ((hf2 _ (by omega)).trans (jx_up_s _ _ _)) (jx_wi (by omega) (by omega) (k M2 _ (JI.ok hW1 hN2 hf2 hlo ⟨hP1, hP2, fun j hj => ⟨(hq j hj).1, (hq j hj).2.1, sp_si_fd (hq j hj).2.2⟩, hP4, ⟨hP5.1, by omega, hP5.2.2⟩, by omega, by omega, by omega⟩)))
  · try dsimp only [Option.toList, List.cons_append, List.nil_append]
    have hN1 := hN
    have hB1 := hB
    refine jx_istore d_L_law_329 (Nat.le_of_ble_eq_true rfl) (jx_e8_5 (by trivial)) ?_
    refine jx_aload_n (i := 2) d_L_law_331 rfl rfl ?_
    refine jx_aload_n (i := 0) d_L_law_332 rfl rfl ?_
    refine jx_iload d_L_law_333 rfl ?_
    refine jx_iconst (v := 1) d_L_law_335 (by decide) ?_
    refine jx_iadd d_L_law_336 ?_
    refine jx_sldj d_L_law_337 (es1 _) (by omega) (by assumption) ?_
    refine jx_aload_n (i := 0) d_L_law_338 rfl rfl ?_
    refine jx_iload d_L_law_339 rfl ?_
    refine jx_iconst (v := 2) d_L_law_341 (by decide) ?_
    refine jx_iadd d_L_law_342 ?_
    refine jx_sldj d_L_law_343 (es2 _) (by omega) (by assumption) ?_
    refine jx_i2l d_L_law_344 ?_
    refine jx_bipush (v := 32) d_L_law_345 (by decide) ?_
    refine jx_lshl d_L_law_347 ?_
    refine jx_aload_n (i := 0) d_L_law_348 rfl rfl ?_
    refine jx_iload d_L_law_349 rfl ?_
    refine jx_iconst (v := 3) d_L_law_351 (by decide) ?_
    refine jx_iadd d_L_law_352 ?_
    refine jx_sldj d_L_law_353 (es3 _) (by omega) (by assumption) ?_
    refine jx_i2l d_L_law_354 ?_
    refine jx_ldc2 d_L_law_355 rfl nv_L_82 ?_
    refine jx_land d_L_law_358 ?_
    refine jx_lor d_L_law_359 ?_
    refine jx_callV2 d_L_law_360 mv_L_95 hB1 rfl (jx_okl hRm (by omega) (Nat.le_of_ble_eq_true rfl)) (Nat.le_of_ble_eq_true rfl) (by omega) (by omega) (c_M_failsAt (d := 10) (by omega) hN1 (fun f2 g1 g2 => absurd (by rw [g2, nI_toInt (by omega)]; omega) e1) (fun _ M2 hN2 hf2 => ?_) (fun f2 g1 g2 => absurd (by rw [g2, nI_toInt (by omega)]; omega) e1))
    try dsimp only [Option.toList, List.cons_append, List.nil_append]
    · try dsimp only [Option.toList, List.cons_append, List.nil_append]
      refine jx_istore d_L_law_363 (Nat.le_of_ble_eq_true rfl) (jx_e8_6 (by trivial)) ?_
      exact tx_failsAt (jx_okl hRm (by omega) (by omega)) (by omega) (by omega) (by decide) hN2 (jx_wi (by omega) (by omega) (k M2 _ (fin M2 _ _ _ hsz hN2 (fun q hq => hf2 q (by omega)) ((hf2 _ (by omega)).trans hout))))
  · try dsimp only [Option.toList, List.cons_append, List.nil_append]
    have hN1 := hN
    have hB1 := hB
    refine jx_istore d_L_law_329 (Nat.le_of_ble_eq_true rfl) (jx_e8_5 (by trivial)) ?_
    refine jx_aload_n (i := 2) d_L_law_331 rfl rfl ?_
    refine jx_aload_n (i := 0) d_L_law_332 rfl rfl ?_
    refine jx_iload d_L_law_333 rfl ?_
    refine jx_iconst (v := 1) d_L_law_335 (by decide) ?_
    refine jx_iadd d_L_law_336 ?_
    refine jx_sldj d_L_law_337 (es1 _) (by omega) (by assumption) ?_
    refine jx_aload_n (i := 0) d_L_law_338 rfl rfl ?_
    refine jx_iload d_L_law_339 rfl ?_
    refine jx_iconst (v := 2) d_L_law_341 (by decide) ?_
    refine jx_iadd d_L_law_342 ?_
    refine jx_sldj d_L_law_343 (es2 _) (by omega) (by assumption) ?_
    refine jx_i2l d_L_law_344 ?_
    refine jx_bipush (v := 32) d_L_law_345 (by decide) ?_
    refine jx_lshl d_L_law_347 ?_
    refine jx_aload_n (i := 0) d_L_law_348 rfl rfl ?_
    refine jx_iload d_L_law_349 rfl ?_
    refine jx_iconst (v := 3) d_L_law_351 (by decide) ?_
    refine jx_iadd d_L_law_352 ?_
    refine jx_sldj d_L_law_353 (es3 _) (by omega) (by assumption) ?_
    refine jx_i2l d_L_law_354 ?_
    refine jx_ldc2 d_L_law_355 rfl nv_L_82 ?_
    refine jx_land d_L_law_358 ?_
    refine jx_lor d_L_law_359 ?_
    refine jx_callV2 d_L_law_360 mv_L_95 hB1 rfl (jx_okl hRm (by omega) (Nat.le_of_ble_eq_true rfl)) (Nat.le_of_ble_eq_true rfl) (by omega) (by omega) (c_M_failsAt (d := 10) (by omega) hN1 (fun f2 g1 g2 g3 g4 => absurd (by rw [← (nI_eq (by omega) (by omega)).mp (g2.symm.trans e2)]; exact ⟨g3, g4⟩) e3) (fun h => absurd (by rw [e2, nI_toInt (by omega)]; omega) h) (fun f2 g1 g2 g3 M2 hN2 hf2 => ?_))
    try dsimp only [Option.toList, List.cons_append, List.nil_append]
    · try dsimp only [Option.toList, List.cons_append, List.nil_append]
      refine jx_istore d_L_law_363 (Nat.le_of_ble_eq_true rfl) (jx_e8_6 (by trivial)) ?_
      exact tx_failsAt (jx_okl hRm (by omega) (by omega)) (by omega) (by omega) (by decide) hN2 (jx_wi (by omega) (by omega) (k M2 _ (fin M2 _ _ _ hsz hN2 (fun q hq => hf2 q (by omega)) ((hf2 _ (by omega)).trans hout))))
theorem o_fold (hRm : 12 ≤ R.frames ∧ 482 ≤ R.locals) (hc : kc + 5 ≤ R.cells) (hs : ks + 178 ≤ R.slots) (hl : jx_sl G ≤ 3588) (hi : 4 + 7 * c + 7 ≤ jx_sl G) (hset : sp_set la wi en pe A Wd P) (hJ : JI G a c la wi en pe A P M sz) (k : ∀ M' sz', JI G a (c + 1) la wi en pe A P M' sz' → jx_V md_L_law [] G R Q 1411 [some (.ref (jx_sa G)), some (.ref a), some (.ref (a + 9)), some (.ref (a + 23)), some (.int (nI (4 + 7 * c))), none, none, none] [] M' sz' (kc + 5) (ks + 178)) : jx_V md_L_law [] G R Q 152 [some (.ref (jx_sa G)), some (.ref a), some (.ref (a + 9)), some (.ref (a + 23)), some (.int (nI (4 + 7 * c))), none, none, none] [] M sz kc ks := by
  obtain ⟨lo, far, kar, lr, fr, gt, lt, tk, lc, db, fc, le, nF, fo, fd, fw, nK, ko, nm, kd, nS, sn, nA, ac, nO, oc, cd, ou, g, T, q, hW, hN, hout, hlo, hP⟩ := hJ
  obtain ⟨w1, w2, w3, w4, w5, w6, w7, w8, w9⟩ := id hW
  obtain ⟨hP1, hP2, hq, hP4, hP5, hP6, hP7, hP8⟩ := id hP
  have hnF := w8.1.2.1
  have hnK := w9.2.1
  obtain ⟨mk, ki, st, nu, fa, fl, nn, si, wo, ti, va, so, hmk, hB, -⟩ := id hN
  have fin : ∀ M2 sz2 cd2 ou2, sz ≤ sz2 → mW M2 (a + 9) la wi en pe cd2 lr fr gt lt tk lc db fc le nF fd fw nK nm kd nS sn nA ac nO oc → (∀ q, (a ≤ q ∧ q ≤ a + 8) ∨ a + 24 ≤ q → M2 q = M q) → M2 (a + 23) = some (kf_la 1 ou2) → JI G a (c + 1) la wi en pe A P M2 sz2 := fun M2 sz2 cd2 ou2 s1 s2 s3 s4 => ⟨lo, far, kar, lr, fr, gt, lt, tk, lc, db, fc, le, nF, fo, fd, fw, nK, ko, nm, kd, nS, sn, nA, ac, nO, oc, cd2, ou2, g, T, q, hW.to s3, s2, s4, by omega, hP.step⟩
  refine jx_aload_n (i := 1) d_L_law_152 rfl rfl ?_
  refine jx_aload_n (i := 0) d_L_law_153 rfl rfl ?_
  refine jx_iload d_L_law_154 rfl ?_
  refine jx_iconst (v := 1) d_L_law_156 (by decide) ?_
  refine jx_iadd d_L_law_157 ?_
  refine jx_sldj d_L_law_158 (es1 _) (by omega) (by assumption) ?_
  refine jx_aload_n (i := 0) d_L_law_159 rfl rfl ?_
  refine jx_iload d_L_law_160 rfl ?_
  refine jx_iconst (v := 2) d_L_law_162 (by decide) ?_
  refine jx_iadd d_L_law_163 ?_
  refine jx_sldj d_L_law_164 (es2 _) (by omega) (by assumption) ?_
  refine jx_i2l d_L_law_165 ?_
  refine jx_bipush (v := 32) d_L_law_166 (by decide) ?_
  refine jx_lshl d_L_law_168 ?_
  refine jx_aload_n (i := 0) d_L_law_169 rfl rfl ?_
  refine jx_iload d_L_law_170 rfl ?_
  refine jx_iconst (v := 3) d_L_law_172 (by decide) ?_
  refine jx_iadd d_L_law_173 ?_
  refine jx_sldj d_L_law_174 (es3 _) (by omega) (by assumption) ?_
  refine jx_i2l d_L_law_175 ?_
  refine jx_ldc2 d_L_law_176 rfl nv_L_82 ?_
  refine jx_land d_L_law_179 ?_
  refine jx_lor d_L_law_180 ?_
  refine jx_aload_n (i := 0) d_L_law_181 rfl rfl ?_
  refine jx_iload d_L_law_182 rfl ?_
  refine jx_iconst (v := 4) d_L_law_184 (by decide) ?_
  refine jx_iadd d_L_law_185 ?_
  refine jx_sldj d_L_law_186 (es4 _) (by omega) (by assumption) ?_
  refine jx_i2l d_L_law_187 ?_
  refine jx_bipush (v := 32) d_L_law_188 (by decide) ?_
  refine jx_lshl d_L_law_190 ?_
  refine jx_aload_n (i := 0) d_L_law_191 rfl rfl ?_
  refine jx_iload d_L_law_192 rfl ?_
  refine jx_iconst (v := 5) d_L_law_194 (by decide) ?_
  refine jx_iadd d_L_law_195 ?_
  refine jx_sldj d_L_law_196 (es5 _) (by omega) (by assumption) ?_
  refine jx_i2l d_L_law_197 ?_
  refine jx_ldc2 d_L_law_198 rfl nv_L_82 ?_
  refine jx_land d_L_law_201 ?_
  refine jx_lor d_L_law_202 ?_
  refine jx_aload_n (i := 3) d_L_law_203 rfl rfl ?_
  refine jx_callH (hh2 := mh_L_fold) (As := [.ref a, .int _, .long _, .long _, .ref (a + 23)]) d_L_law_204 mk_L_84 pn_fold (jx_okl hRm (show 10 ≤ 10 by omega) (Nat.le_of_ble_eq_true rfl)) rfl rfl (Nat.le_of_ble_eq_true rfl) (by omega) (by omega) (c_L_fold (d := 10) (by omega) w1 (fun Z2 ZX2 h0 h1 h2 => c_K_fold (d := 9) (by omega) hlo w1 w8 w9.1.1 (by omega) (fun kn e1 e2 e3 e4 M1 sz' far' hF1 un hsz => h0 _ ou _ _ ((un _ (by omega) (by omega)).trans hout) ?_) (fun e1 sz' hsz => h1 _ _ ?_) (fun e1 e2 sz' hsz => h2 _ _ ?_)))
  · try dsimp only [Option.toList, List.cons_append, List.nil_append]
    have h24 := hF1.2.2.1
    have fr1 : ∀ q, a + 9 ≤ q → q < a + 24 → M1 q = M q := fun q q1 q2 => un q (by omega) (by omega)
    have etk := (sp_tkn hP5.1 (by omega) hP5.2.2).mp e4
    obtain rfl := e4
    obtain rfl := hP4 rfl
    have hW1 : kW G M1 a _ _ _ _ _ _ _ _ _ _ _ _ _ _ _ _ _ _ _ _ _ _ _ _ _ _ _ _ _ _ := ⟨(un _ (by omega) (by omega)).trans w1, (un _ (by omega) (by omega)).trans w2, (un _ (by omega) (by omega)).trans w3, (un _ (by omega) (by omega)).trans w4, (un _ (by omega) (by omega)).trans w5, (un _ (by omega) (by omega)).trans w6, (un _ (by omega) (by omega)).trans w7, hF1, sp_kC0 w9 (un _ (by omega) (by omega))⟩
    have hN1 := fun e => hN.to (M' := jx_up M1 (a + 23) e) (fun q q1 q2 => (jx_up_n _ _ (by omega)).trans (fr1 q (by omega) (by omega)))
    have hB1 := fun e => (jx_up_n M1 e (show a + 9 ≠ a + 23 by omega)).trans ((fr1 _ (by omega) (by omega)).trans hB)
    refine jx_istore d_L_law_207 (Nat.le_of_ble_eq_true rfl) (jx_e8_5 (by trivial)) ?_
    refine jx_aload_n (i := 2) d_L_law_209 rfl rfl ?_
    refine jx_aload_n (i := 0) d_L_law_210 rfl rfl ?_
    refine jx_iload d_L_law_211 rfl ?_
    refine jx_iconst (v := 1) d_L_law_213 (by decide) ?_
    refine jx_iadd d_L_law_214 ?_
    refine jx_sldj d_L_law_215 (es1 _) (by omega) (by assumption) ?_
    refine jx_aload_n (i := 0) d_L_law_216 rfl rfl ?_
    refine jx_iload d_L_law_217 rfl ?_
    refine jx_iconst (v := 2) d_L_law_219 (by decide) ?_
    refine jx_iadd d_L_law_220 ?_
    refine jx_sldj d_L_law_221 (es2 _) (by omega) (by assumption) ?_
    refine jx_i2l d_L_law_222 ?_
    refine jx_bipush (v := 32) d_L_law_223 (by decide) ?_
    refine jx_lshl d_L_law_225 ?_
    refine jx_aload_n (i := 0) d_L_law_226 rfl rfl ?_
    refine jx_iload d_L_law_227 rfl ?_
    refine jx_iconst (v := 3) d_L_law_229 (by decide) ?_
    refine jx_iadd d_L_law_230 ?_
    refine jx_sldj d_L_law_231 (es3 _) (by omega) (by assumption) ?_
    refine jx_i2l d_L_law_232 ?_
    refine jx_ldc2 d_L_law_233 rfl nv_L_82 ?_
    refine jx_land d_L_law_236 ?_
    refine jx_lor d_L_law_237 ?_
    refine jx_aload_n (i := 0) d_L_law_238 rfl rfl ?_
    refine jx_iload d_L_law_239 rfl ?_
    refine jx_iconst (v := 4) d_L_law_241 (by decide) ?_
    refine jx_iadd d_L_law_242 ?_
    refine jx_sldj d_L_law_243 (es4 _) (by omega) (by assumption) ?_
    refine jx_i2l d_L_law_244 ?_
    refine jx_bipush (v := 32) d_L_law_245 (by decide) ?_
    refine jx_lshl d_L_law_247 ?_
    refine jx_aload_n (i := 0) d_L_law_248 rfl rfl ?_
    refine jx_iload d_L_law_249 rfl ?_
    refine jx_iconst (v := 5) d_L_law_251 (by decide) ?_
    refine jx_iadd d_L_law_252 ?_
    refine jx_sldj d_L_law_253 (es5 _) (by omega) (by assumption) ?_
    refine jx_i2l d_L_law_254 ?_
    refine jx_ldc2 d_L_law_255 rfl nv_L_82 ?_
    refine jx_land d_L_law_258 ?_
    refine jx_lor d_L_law_259 ?_
    refine jx_callV3 d_L_law_260 mv_L_87 (hB1 _) rfl (jx_okl hRm (by omega) (Nat.le_of_ble_eq_true rfl)) (Nat.le_of_ble_eq_true rfl) (by omega) (by omega) (c_M_fold (d := 10) (hN1 _) (fun kn2 g1 g2 g3 g4 M2 hN2 hf2 => ?_) (fun h => absurd (sp_k8 e1 e2) h) (fun _ h => absurd ⟨e3, etk⟩ h))
    try dsimp only [Option.toList, List.cons_append, List.nil_append]
    · try dsimp only [Option.toList, List.cons_append, List.nil_append]
      obtain rfl : kn2 = kn := (nI_eq (by omega) (by omega)).mp (g2.symm.trans e2)
      have hN2 := hN2 (sz + 1) (fun _ => 0)
      refine jx_istore d_L_law_263 (Nat.le_of_ble_eq_true rfl) (jx_e8_6 (by trivial)) ?_
      exact t0_fold (jx_okl hRm (by omega) (by omega)) (by omega) (by omega) hN2 ((hf2 _ (by omega)).trans (jx_up_s _ _ _)) (jx_wi (by omega) (by omega) (k M2 _ (JI.ok hW1 hN2 hf2 (Nat.le_refl _) ⟨hP1, hP2, fun j hj => absurd hj (Nat.not_lt_zero _), fun _ => rfl, ⟨hP5.1, by omega, hP5.2.2⟩, by omega, by omega, by omega⟩)))
  · try dsimp only [Option.toList, List.cons_append, List.nil_append]
    have hN1 := hN
    have hB1 := hB
    refine jx_istore d_L_law_207 (Nat.le_of_ble_eq_true rfl) (jx_e8_5 (by trivial)) ?_
    refine jx_aload_n (i := 2) d_L_law_209 rfl rfl ?_
    refine jx_aload_n (i := 0) d_L_law_210 rfl rfl ?_
    refine jx_iload d_L_law_211 rfl ?_
    refine jx_iconst (v := 1) d_L_law_213 (by decide) ?_
    refine jx_iadd d_L_law_214 ?_
    refine jx_sldj d_L_law_215 (es1 _) (by omega) (by assumption) ?_
    refine jx_aload_n (i := 0) d_L_law_216 rfl rfl ?_
    refine jx_iload d_L_law_217 rfl ?_
    refine jx_iconst (v := 2) d_L_law_219 (by decide) ?_
    refine jx_iadd d_L_law_220 ?_
    refine jx_sldj d_L_law_221 (es2 _) (by omega) (by assumption) ?_
    refine jx_i2l d_L_law_222 ?_
    refine jx_bipush (v := 32) d_L_law_223 (by decide) ?_
    refine jx_lshl d_L_law_225 ?_
    refine jx_aload_n (i := 0) d_L_law_226 rfl rfl ?_
    refine jx_iload d_L_law_227 rfl ?_
    refine jx_iconst (v := 3) d_L_law_229 (by decide) ?_
    refine jx_iadd d_L_law_230 ?_
    refine jx_sldj d_L_law_231 (es3 _) (by omega) (by assumption) ?_
    refine jx_i2l d_L_law_232 ?_
    refine jx_ldc2 d_L_law_233 rfl nv_L_82 ?_
    refine jx_land d_L_law_236 ?_
    refine jx_lor d_L_law_237 ?_
    refine jx_aload_n (i := 0) d_L_law_238 rfl rfl ?_
    refine jx_iload d_L_law_239 rfl ?_
    refine jx_iconst (v := 4) d_L_law_241 (by decide) ?_
    refine jx_iadd d_L_law_242 ?_
    refine jx_sldj d_L_law_243 (es4 _) (by omega) (by assumption) ?_
    refine jx_i2l d_L_law_244 ?_
    refine jx_bipush (v := 32) d_L_law_245 (by decide) ?_
    refine jx_lshl d_L_law_247 ?_
    refine jx_aload_n (i := 0) d_L_law_248 rfl rfl ?_
    refine jx_iload d_L_law_249 rfl ?_
    refine jx_iconst (v := 5) d_L_law_251 (by decide) ?_
    refine jx_iadd d_L_law_252 ?_
    refine jx_sldj d_L_law_253 (es5 _) (by omega) (by assumption) ?_
    refine jx_i2l d_L_law_254 ?_
    refine jx_ldc2 d_L_law_255 rfl nv_L_82 ?_
    refine jx_land d_L_law_258 ?_
    refine jx_lor d_L_law_259 ?_
    refine jx_callV3 d_L_law_260 mv_L_87 hB1 rfl (jx_okl hRm (by omega) (Nat.le_of_ble_eq_true rfl)) (Nat.le_of_ble_eq_true rfl) (by omega) (by omega) (c_M_fold (d := 10) hN1 (fun kn g1 g2 => absurd (sp_k8 g1 g2) e1) (fun _ M2 hN2 hf2 => ?_) (fun h => absurd h e1))
    try dsimp only [Option.toList, List.cons_append, List.nil_append]
    · try dsimp only [Option.toList, List.cons_append, List.nil_append]
      refine jx_istore d_L_law_263 (Nat.le_of_ble_eq_true rfl) (jx_e8_6 (by trivial)) ?_
      exact tx_fold (jx_okl hRm (by omega) (by omega)) (by omega) (by omega) (by decide) hN2 (jx_wi (by omega) (by omega) (k M2 _ (fin M2 _ _ _ hsz hN2 (fun q hq => hf2 q (by omega)) ((hf2 _ (by omega)).trans hout))))
  · try dsimp only [Option.toList, List.cons_append, List.nil_append]
    have hN1 := hN
    have hB1 := hB
    refine jx_istore d_L_law_207 (Nat.le_of_ble_eq_true rfl) (jx_e8_5 (by trivial)) ?_
    refine jx_aload_n (i := 2) d_L_law_209 rfl rfl ?_
    refine jx_aload_n (i := 0) d_L_law_210 rfl rfl ?_
    refine jx_iload d_L_law_211 rfl ?_
    refine jx_iconst (v := 1) d_L_law_213 (by decide) ?_
    refine jx_iadd d_L_law_214 ?_
    refine jx_sldj d_L_law_215 (es1 _) (by omega) (by assumption) ?_
    refine jx_aload_n (i := 0) d_L_law_216 rfl rfl ?_
    refine jx_iload d_L_law_217 rfl ?_
    refine jx_iconst (v := 2) d_L_law_219 (by decide) ?_
    refine jx_iadd d_L_law_220 ?_
    refine jx_sldj d_L_law_221 (es2 _) (by omega) (by assumption) ?_
    refine jx_i2l d_L_law_222 ?_
    refine jx_bipush (v := 32) d_L_law_223 (by decide) ?_
    refine jx_lshl d_L_law_225 ?_
    refine jx_aload_n (i := 0) d_L_law_226 rfl rfl ?_
    refine jx_iload d_L_law_227 rfl ?_
    refine jx_iconst (v := 3) d_L_law_229 (by decide) ?_
    refine jx_iadd d_L_law_230 ?_
    refine jx_sldj d_L_law_231 (es3 _) (by omega) (by assumption) ?_
    refine jx_i2l d_L_law_232 ?_
    refine jx_ldc2 d_L_law_233 rfl nv_L_82 ?_
    refine jx_land d_L_law_236 ?_
    refine jx_lor d_L_law_237 ?_
    refine jx_aload_n (i := 0) d_L_law_238 rfl rfl ?_
    refine jx_iload d_L_law_239 rfl ?_
    refine jx_iconst (v := 4) d_L_law_241 (by decide) ?_
    refine jx_iadd d_L_law_242 ?_
    refine jx_sldj d_L_law_243 (es4 _) (by omega) (by assumption) ?_
    refine jx_i2l d_L_law_244 ?_
    refine jx_bipush (v := 32) d_L_law_245 (by decide) ?_
    refine jx_lshl d_L_law_247 ?_
    refine jx_aload_n (i := 0) d_L_law_248 rfl rfl ?_
    refine jx_iload d_L_law_249 rfl ?_
    refine jx_iconst (v := 5) d_L_law_251 (by decide) ?_
    refine jx_iadd d_L_law_252 ?_
    refine jx_sldj d_L_law_253 (es5 _) (by omega) (by assumption) ?_
    refine jx_i2l d_L_law_254 ?_
    refine jx_ldc2 d_L_law_255 rfl nv_L_82 ?_
    refine jx_land d_L_law_258 ?_
    refine jx_lor d_L_law_259 ?_
    refine jx_callV3 d_L_law_260 mv_L_87 hB1 rfl (jx_okl hRm (by omega) (Nat.le_of_ble_eq_true rfl)) (Nat.le_of_ble_eq_true rfl) (by omega) (by omega) (c_M_fold (d := 10) hN1 (fun kn g1 g2 g3 g4 => absurd ⟨g3, (sp_tkn hP5.1 (by omega) hP5.2.2).mpr g4⟩ e2) (fun h => absurd e1 h) (fun _ _ M2 hN2 hf2 => ?_))
    try dsimp only [Option.toList, List.cons_append, List.nil_append]
    · try dsimp only [Option.toList, List.cons_append, List.nil_append]
      refine jx_istore d_L_law_263 (Nat.le_of_ble_eq_true rfl) (jx_e8_6 (by trivial)) ?_
      exact tx_fold (jx_okl hRm (by omega) (by omega)) (by omega) (by omega) (by decide) hN2 (jx_wi (by omega) (by omega) (k M2 _ (fin M2 _ _ _ hsz hN2 (fun q hq => hf2 q (by omega)) ((hf2 _ (by omega)).trans hout))))
theorem o_row (hRm : 12 ≤ R.frames ∧ 482 ≤ R.locals) (hc : kc + 5 ≤ R.cells) (hs : ks + 178 ≤ R.slots) (hl : jx_sl G ≤ 3588) (hi : 4 + 7 * c + 7 ≤ jx_sl G) (hset : sp_set la wi en pe A Wd P) (hJ : JI G a c la wi en pe A P M sz) (k : ∀ M' sz', JI G a (c + 1) la wi en pe A P M' sz' → jx_V md_L_law [] G R Q 1411 [some (.ref (jx_sa G)), some (.ref a), some (.ref (a + 9)), some (.ref (a + 23)), some (.int (nI (4 + 7 * c))), none, none, none] [] M' sz' (kc + 5) (ks + 178)) : jx_V md_L_law [] G R Q 464 [some (.ref (jx_sa G)), some (.ref a), some (.ref (a + 9)), some (.ref (a + 23)), some (.int (nI (4 + 7 * c))), none, none, none] [] M sz kc ks := by
  obtain ⟨lo, far, kar, lr, fr, gt, lt, tk, lc, db, fc, le, nF, fo, fd, fw, nK, ko, nm, kd, nS, sn, nA, ac, nO, oc, cd, ou, g, T, q, hW, hN, hout, hlo, hP⟩ := hJ
  obtain ⟨w1, w2, w3, w4, w5, w6, w7, w8, w9⟩ := id hW
  obtain ⟨hP1, hP2, hq, hP4, hP5, hP6, hP7, hP8⟩ := id hP
  have hnF := w8.1.2.1
  have hnK := w9.2.1
  obtain ⟨mk, ki, st, nu, fa, fl, nn, si, wo, ti, va, so, hmk, hB, -⟩ := id hN
  have fin : ∀ M2 sz2 cd2 ou2, sz ≤ sz2 → mW M2 (a + 9) la wi en pe cd2 lr fr gt lt tk lc db fc le nF fd fw nK nm kd nS sn nA ac nO oc → (∀ q, (a ≤ q ∧ q ≤ a + 8) ∨ a + 24 ≤ q → M2 q = M q) → M2 (a + 23) = some (kf_la 1 ou2) → JI G a (c + 1) la wi en pe A P M2 sz2 := fun M2 sz2 cd2 ou2 s1 s2 s3 s4 => ⟨lo, far, kar, lr, fr, gt, lt, tk, lc, db, fc, le, nF, fo, fd, fw, nK, ko, nm, kd, nS, sn, nA, ac, nO, oc, cd2, ou2, g, T, q, hW.to s3, s2, s4, by omega, hP.step⟩
  refine jx_aload_n (i := 1) d_L_law_464 rfl rfl ?_
  refine jx_aload_n (i := 0) d_L_law_465 rfl rfl ?_
  refine jx_iload d_L_law_466 rfl ?_
  refine jx_iconst (v := 1) d_L_law_468 (by decide) ?_
  refine jx_iadd d_L_law_469 ?_
  refine jx_sldj d_L_law_470 (es1 _) (by omega) (by assumption) ?_
  refine jx_i2l d_L_law_471 ?_
  refine jx_bipush (v := 32) d_L_law_472 (by decide) ?_
  refine jx_lshl d_L_law_474 ?_
  refine jx_aload_n (i := 0) d_L_law_475 rfl rfl ?_
  refine jx_iload d_L_law_476 rfl ?_
  refine jx_iconst (v := 2) d_L_law_478 (by decide) ?_
  refine jx_iadd d_L_law_479 ?_
  refine jx_sldj d_L_law_480 (es2 _) (by omega) (by assumption) ?_
  refine jx_i2l d_L_law_481 ?_
  refine jx_ldc2 d_L_law_482 rfl nv_L_82 ?_
  refine jx_land d_L_law_485 ?_
  refine jx_lor d_L_law_486 ?_
  refine jx_aload_n (i := 0) d_L_law_487 rfl rfl ?_
  refine jx_iload d_L_law_488 rfl ?_
  refine jx_iconst (v := 3) d_L_law_490 (by decide) ?_
  refine jx_iadd d_L_law_491 ?_
  refine jx_sldj d_L_law_492 (es3 _) (by omega) (by assumption) ?_
  refine jx_i2l d_L_law_493 ?_
  refine jx_bipush (v := 32) d_L_law_494 (by decide) ?_
  refine jx_lshl d_L_law_496 ?_
  refine jx_aload_n (i := 0) d_L_law_497 rfl rfl ?_
  refine jx_iload d_L_law_498 rfl ?_
  refine jx_iconst (v := 4) d_L_law_500 (by decide) ?_
  refine jx_iadd d_L_law_501 ?_
  refine jx_sldj d_L_law_502 (es4 _) (by omega) (by assumption) ?_
  refine jx_i2l d_L_law_503 ?_
  refine jx_ldc2 d_L_law_504 rfl nv_L_82 ?_
  refine jx_land d_L_law_507 ?_
  refine jx_lor d_L_law_508 ?_
  refine jx_aload_n (i := 0) d_L_law_509 rfl rfl ?_
  refine jx_iload d_L_law_510 rfl ?_
  refine jx_iconst (v := 5) d_L_law_512 (by decide) ?_
  refine jx_iadd d_L_law_513 ?_
  refine jx_sldj d_L_law_514 (es5 _) (by omega) (by assumption) ?_
  refine jx_i2l d_L_law_515 ?_
  refine jx_bipush (v := 32) d_L_law_516 (by decide) ?_
  refine jx_lshl d_L_law_518 ?_
  refine jx_aload_n (i := 0) d_L_law_519 rfl rfl ?_
  refine jx_iload d_L_law_520 rfl ?_
  refine jx_bipush (v := 6) d_L_law_522 (by decide) ?_
  refine jx_iadd d_L_law_524 ?_
  refine jx_sldj d_L_law_525 (es6 _) (by omega) (by assumption) ?_
  refine jx_i2l d_L_law_526 ?_
  refine jx_ldc2 d_L_law_527 rfl nv_L_82 ?_
  refine jx_land d_L_law_530 ?_
  refine jx_lor d_L_law_531 ?_
  refine jx_aload_n (i := 3) d_L_law_532 rfl rfl ?_
  refine jx_callH (hh2 := mh_L_row) (As := [.ref a, .long _, .long _, .long _, .ref (a + 23)]) d_L_law_533 mk_L_100 pn_row (jx_okl hRm (show 10 ≤ 10 by omega) (Nat.le_of_ble_eq_true rfl)) rfl rfl (Nat.le_of_ble_eq_true rfl) (by omega) (by omega) (c_L_row (d := 10) (by omega) w1 (fun Z2 ZX2 h0 h1 h2 => c_K_row (d := 9) (by omega) hlo hset.1.1 hset.1.2 hset.2.2.1 hset.2.2.2 hP1.1 hP1.2.1 hP1.2.2.1 hP1.2.2.2.1 (by omega) (by omega) (by omega) hW (fun e1 sz' hsz => h1 _ _ ?_) (fun e1 e2 sz' hsz => h2 _ _ ?_) (fun n e1 e2 e3 e4 e5 sz' hsz => h2 _ _ ?_) (fun n r thr e1 e2 e3 e4 e5 e6 e7 M1 sz' kar' ko' hW1 fr1 hsz => h0 _ ou _ _ ((fr1 _ (by omega) (by omega)).trans hout) ?_) (fun n e1 e2 e3 e4 M1 hW1 fr1 => h0 _ ou _ _ ((fr1 _ (by omega) (by omega)).trans hout) ?_) (fun n e1 e2 e3 e4 M1 hW1 fr1 => h0 _ ou _ _ ((fr1 _ (by omega) (by omega)).trans hout) ?_) (fun n e1 e2 e3 e4 M1 hW1 fr1 => h0 _ ou _ _ ((fr1 _ (by omega) (by omega)).trans hout) ?_) (fun n e1 e2 e3 e4 M1 hW1 fr1 => h0 _ ou _ _ ((fr1 _ (by omega) (by omega)).trans hout) ?_) (fun n e1 e2 e3 e4 M1 hW1 fr1 => h0 _ ou _ _ ((fr1 _ (by omega) (by omega)).trans hout) ?_) (fun n e1 e2 e3 e4 M1 hW1 fr1 => h0 _ ou _ _ ((fr1 _ (by omega) (by omega)).trans hout) ?_)))
  · try dsimp only [Option.toList, List.cons_append, List.nil_append]
    have hN1 := hN
    have hB1 := hB
    refine jx_istore d_L_law_536 (Nat.le_of_ble_eq_true rfl) (jx_e8_5 (by trivial)) ?_
    refine jx_aload_n (i := 2) d_L_law_538 rfl rfl ?_
    refine jx_aload_n (i := 0) d_L_law_539 rfl rfl ?_
    refine jx_iload d_L_law_540 rfl ?_
    refine jx_iconst (v := 1) d_L_law_542 (by decide) ?_
    refine jx_iadd d_L_law_543 ?_
    refine jx_sldj d_L_law_544 (es1 _) (by omega) (by assumption) ?_
    refine jx_i2l d_L_law_545 ?_
    refine jx_bipush (v := 32) d_L_law_546 (by decide) ?_
    refine jx_lshl d_L_law_548 ?_
    refine jx_aload_n (i := 0) d_L_law_549 rfl rfl ?_
    refine jx_iload d_L_law_550 rfl ?_
    refine jx_iconst (v := 2) d_L_law_552 (by decide) ?_
    refine jx_iadd d_L_law_553 ?_
    refine jx_sldj d_L_law_554 (es2 _) (by omega) (by assumption) ?_
    refine jx_i2l d_L_law_555 ?_
    refine jx_ldc2 d_L_law_556 rfl nv_L_82 ?_
    refine jx_land d_L_law_559 ?_
    refine jx_lor d_L_law_560 ?_
    refine jx_aload_n (i := 0) d_L_law_561 rfl rfl ?_
    refine jx_iload d_L_law_562 rfl ?_
    refine jx_iconst (v := 3) d_L_law_564 (by decide) ?_
    refine jx_iadd d_L_law_565 ?_
    refine jx_sldj d_L_law_566 (es3 _) (by omega) (by assumption) ?_
    refine jx_i2l d_L_law_567 ?_
    refine jx_bipush (v := 32) d_L_law_568 (by decide) ?_
    refine jx_lshl d_L_law_570 ?_
    refine jx_aload_n (i := 0) d_L_law_571 rfl rfl ?_
    refine jx_iload d_L_law_572 rfl ?_
    refine jx_iconst (v := 4) d_L_law_574 (by decide) ?_
    refine jx_iadd d_L_law_575 ?_
    refine jx_sldj d_L_law_576 (es4 _) (by omega) (by assumption) ?_
    refine jx_i2l d_L_law_577 ?_
    refine jx_ldc2 d_L_law_578 rfl nv_L_82 ?_
    refine jx_land d_L_law_581 ?_
    refine jx_lor d_L_law_582 ?_
    refine jx_aload_n (i := 0) d_L_law_583 rfl rfl ?_
    refine jx_iload d_L_law_584 rfl ?_
    refine jx_iconst (v := 5) d_L_law_586 (by decide) ?_
    refine jx_iadd d_L_law_587 ?_
    refine jx_sldj d_L_law_588 (es5 _) (by omega) (by assumption) ?_
    refine jx_i2l d_L_law_589 ?_
    refine jx_bipush (v := 32) d_L_law_590 (by decide) ?_
    refine jx_lshl d_L_law_592 ?_
    refine jx_aload_n (i := 0) d_L_law_593 rfl rfl ?_
    refine jx_iload d_L_law_594 rfl ?_
    refine jx_bipush (v := 6) d_L_law_596 (by decide) ?_
    refine jx_iadd d_L_law_598 ?_
    refine jx_sldj d_L_law_599 (es6 _) (by omega) (by assumption) ?_
    refine jx_i2l d_L_law_600 ?_
    refine jx_ldc2 d_L_law_601 rfl nv_L_82 ?_
    refine jx_land d_L_law_604 ?_
    refine jx_lor d_L_law_605 ?_
    refine jx_callV3 d_L_law_606 mv_L_103 hB1 rfl (jx_okl hRm (by omega) (Nat.le_of_ble_eq_true rfl)) (Nat.le_of_ble_eq_true rfl) (by omega) (by omega) (c_M_row (d := 10) (by omega) hset.2.1.1 hset.2.1.2 hset.2.2.1 hset.2.2.2 hset.1.1 hset.1.2 hP1.1 hP1.2.1 hP1.2.2.1 hP1.2.2.2.1 hP1.2.2.2.2 (fun i hi => (hq i hi).1) (fun i hi => (hq i hi).2.1) (by omega) (by omega) (by omega) hP2.1 hP2.2 hN1 (fun _ M2 hN2 hf2 => ?_) (fun h => absurd h e1) (fun n2 g1 g2 => absurd (sp_t40 g1 g2) e1) (fun n2 r thr g1 g2 => absurd (sp_t40 g1 g2) e1) (fun n2 g1 g2 => absurd (sp_t40 g1 g2) e1) (fun n2 g1 g2 => absurd (sp_t40 g1 g2) e1) (fun n2 g1 g2 => absurd (sp_t40 g1 g2) e1) (fun n2 g1 g2 => absurd (sp_t40 g1 g2) e1) (fun n2 g1 g2 => absurd (sp_t40 g1 g2) e1) (fun n2 g1 g2 => absurd (sp_t40 g1 g2) e1))
    try dsimp only [Option.toList, List.cons_append, List.nil_append]
    · try dsimp only [Option.toList, List.cons_append, List.nil_append]
      refine jx_istore d_L_law_609 (Nat.le_of_ble_eq_true rfl) (jx_e8_6 (by trivial)) ?_
      exact tx_row (jx_okl hRm (by omega) (by omega)) (by omega) (by omega) (by decide) hN2 (jx_wi (by omega) (by omega) (k M2 _ (fin M2 _ _ _ hsz hN2 (fun q hq => hf2 q (by omega)) ((hf2 _ (by omega)).trans hout))))
  · try dsimp only [Option.toList, List.cons_append, List.nil_append]
    have hN1 := hN
    have hB1 := hB
    refine jx_istore d_L_law_536 (Nat.le_of_ble_eq_true rfl) (jx_e8_5 (by trivial)) ?_
    refine jx_aload_n (i := 2) d_L_law_538 rfl rfl ?_
    refine jx_aload_n (i := 0) d_L_law_539 rfl rfl ?_
    refine jx_iload d_L_law_540 rfl ?_
    refine jx_iconst (v := 1) d_L_law_542 (by decide) ?_
    refine jx_iadd d_L_law_543 ?_
    refine jx_sldj d_L_law_544 (es1 _) (by omega) (by assumption) ?_
    refine jx_i2l d_L_law_545 ?_
    refine jx_bipush (v := 32) d_L_law_546 (by decide) ?_
    refine jx_lshl d_L_law_548 ?_
    refine jx_aload_n (i := 0) d_L_law_549 rfl rfl ?_
    refine jx_iload d_L_law_550 rfl ?_
    refine jx_iconst (v := 2) d_L_law_552 (by decide) ?_
    refine jx_iadd d_L_law_553 ?_
    refine jx_sldj d_L_law_554 (es2 _) (by omega) (by assumption) ?_
    refine jx_i2l d_L_law_555 ?_
    refine jx_ldc2 d_L_law_556 rfl nv_L_82 ?_
    refine jx_land d_L_law_559 ?_
    refine jx_lor d_L_law_560 ?_
    refine jx_aload_n (i := 0) d_L_law_561 rfl rfl ?_
    refine jx_iload d_L_law_562 rfl ?_
    refine jx_iconst (v := 3) d_L_law_564 (by decide) ?_
    refine jx_iadd d_L_law_565 ?_
    refine jx_sldj d_L_law_566 (es3 _) (by omega) (by assumption) ?_
    refine jx_i2l d_L_law_567 ?_
    refine jx_bipush (v := 32) d_L_law_568 (by decide) ?_
    refine jx_lshl d_L_law_570 ?_
    refine jx_aload_n (i := 0) d_L_law_571 rfl rfl ?_
    refine jx_iload d_L_law_572 rfl ?_
    refine jx_iconst (v := 4) d_L_law_574 (by decide) ?_
    refine jx_iadd d_L_law_575 ?_
    refine jx_sldj d_L_law_576 (es4 _) (by omega) (by assumption) ?_
    refine jx_i2l d_L_law_577 ?_
    refine jx_ldc2 d_L_law_578 rfl nv_L_82 ?_
    refine jx_land d_L_law_581 ?_
    refine jx_lor d_L_law_582 ?_
    refine jx_aload_n (i := 0) d_L_law_583 rfl rfl ?_
    refine jx_iload d_L_law_584 rfl ?_
    refine jx_iconst (v := 5) d_L_law_586 (by decide) ?_
    refine jx_iadd d_L_law_587 ?_
    refine jx_sldj d_L_law_588 (es5 _) (by omega) (by assumption) ?_
    refine jx_i2l d_L_law_589 ?_
    refine jx_bipush (v := 32) d_L_law_590 (by decide) ?_
    refine jx_lshl d_L_law_592 ?_
    refine jx_aload_n (i := 0) d_L_law_593 rfl rfl ?_
    refine jx_iload d_L_law_594 rfl ?_
    refine jx_bipush (v := 6) d_L_law_596 (by decide) ?_
    refine jx_iadd d_L_law_598 ?_
    refine jx_sldj d_L_law_599 (es6 _) (by omega) (by assumption) ?_
    refine jx_i2l d_L_law_600 ?_
    refine jx_ldc2 d_L_law_601 rfl nv_L_82 ?_
    refine jx_land d_L_law_604 ?_
    refine jx_lor d_L_law_605 ?_
    refine jx_callV3 d_L_law_606 mv_L_103 hB1 rfl (jx_okl hRm (by omega) (Nat.le_of_ble_eq_true rfl)) (Nat.le_of_ble_eq_true rfl) (by omega) (by omega) (c_M_row (d := 10) (by omega) hset.2.1.1 hset.2.1.2 hset.2.2.1 hset.2.2.2 hset.1.1 hset.1.2 hP1.1 hP1.2.1 hP1.2.2.1 hP1.2.2.2.1 hP1.2.2.2.2 (fun i hi => (hq i hi).1) (fun i hi => (hq i hi).2.1) (by omega) (by omega) (by omega) hP2.1 hP2.2 hN1 (fun h => absurd e1 h) (fun _ _ M2 hN2 hf2 => ?_) (fun n2 g1 g2 g3 => absurd g3 e2) (fun n2 r thr g1 g2 g3 => absurd g3 e2) (fun n2 g1 g2 g3 => absurd g3 e2) (fun n2 g1 g2 g3 => absurd g3 e2) (fun n2 g1 g2 g3 => absurd g3 e2) (fun n2 g1 g2 g3 => absurd g3 e2) (fun n2 g1 g2 g3 => absurd g3 e2) (fun n2 g1 g2 g3 => absurd g3 e2))
    try dsimp only [Option.toList, List.cons_append, List.nil_append]
    · try dsimp only [Option.toList, List.cons_append, List.nil_append]
      refine jx_istore d_L_law_609 (Nat.le_of_ble_eq_true rfl) (jx_e8_6 (by trivial)) ?_
      exact tx_row (jx_okl hRm (by omega) (by omega)) (by omega) (by omega) (by decide) hN2 (jx_wi (by omega) (by omega) (k M2 _ (fin M2 _ _ _ hsz hN2 (fun q hq => hf2 q (by omega)) ((hf2 _ (by omega)).trans hout))))
  · try dsimp only [Option.toList, List.cons_append, List.nil_append]
    have hN1 := hN
    have hB1 := hB
    refine jx_istore d_L_law_536 (Nat.le_of_ble_eq_true rfl) (jx_e8_5 (by trivial)) ?_
    refine jx_aload_n (i := 2) d_L_law_538 rfl rfl ?_
    refine jx_aload_n (i := 0) d_L_law_539 rfl rfl ?_
    refine jx_iload d_L_law_540 rfl ?_
    refine jx_iconst (v := 1) d_L_law_542 (by decide) ?_
    refine jx_iadd d_L_law_543 ?_
    refine jx_sldj d_L_law_544 (es1 _) (by omega) (by assumption) ?_
    refine jx_i2l d_L_law_545 ?_
    refine jx_bipush (v := 32) d_L_law_546 (by decide) ?_
    refine jx_lshl d_L_law_548 ?_
    refine jx_aload_n (i := 0) d_L_law_549 rfl rfl ?_
    refine jx_iload d_L_law_550 rfl ?_
    refine jx_iconst (v := 2) d_L_law_552 (by decide) ?_
    refine jx_iadd d_L_law_553 ?_
    refine jx_sldj d_L_law_554 (es2 _) (by omega) (by assumption) ?_
    refine jx_i2l d_L_law_555 ?_
    refine jx_ldc2 d_L_law_556 rfl nv_L_82 ?_
    refine jx_land d_L_law_559 ?_
    refine jx_lor d_L_law_560 ?_
    refine jx_aload_n (i := 0) d_L_law_561 rfl rfl ?_
    refine jx_iload d_L_law_562 rfl ?_
    refine jx_iconst (v := 3) d_L_law_564 (by decide) ?_
    refine jx_iadd d_L_law_565 ?_
    refine jx_sldj d_L_law_566 (es3 _) (by omega) (by assumption) ?_
    refine jx_i2l d_L_law_567 ?_
    refine jx_bipush (v := 32) d_L_law_568 (by decide) ?_
    refine jx_lshl d_L_law_570 ?_
    refine jx_aload_n (i := 0) d_L_law_571 rfl rfl ?_
    refine jx_iload d_L_law_572 rfl ?_
    refine jx_iconst (v := 4) d_L_law_574 (by decide) ?_
    refine jx_iadd d_L_law_575 ?_
    refine jx_sldj d_L_law_576 (es4 _) (by omega) (by assumption) ?_
    refine jx_i2l d_L_law_577 ?_
    refine jx_ldc2 d_L_law_578 rfl nv_L_82 ?_
    refine jx_land d_L_law_581 ?_
    refine jx_lor d_L_law_582 ?_
    refine jx_aload_n (i := 0) d_L_law_583 rfl rfl ?_
    refine jx_iload d_L_law_584 rfl ?_
    refine jx_iconst (v := 5) d_L_law_586 (by decide) ?_
    refine jx_iadd d_L_law_587 ?_
    refine jx_sldj d_L_law_588 (es5 _) (by omega) (by assumption) ?_
    refine jx_i2l d_L_law_589 ?_
    refine jx_bipush (v := 32) d_L_law_590 (by decide) ?_
    refine jx_lshl d_L_law_592 ?_
    refine jx_aload_n (i := 0) d_L_law_593 rfl rfl ?_
    refine jx_iload d_L_law_594 rfl ?_
    refine jx_bipush (v := 6) d_L_law_596 (by decide) ?_
    refine jx_iadd d_L_law_598 ?_
    refine jx_sldj d_L_law_599 (es6 _) (by omega) (by assumption) ?_
    refine jx_i2l d_L_law_600 ?_
    refine jx_ldc2 d_L_law_601 rfl nv_L_82 ?_
    refine jx_land d_L_law_604 ?_
    refine jx_lor d_L_law_605 ?_
    refine jx_callV3 d_L_law_606 mv_L_103 hB1 rfl (jx_okl hRm (by omega) (Nat.le_of_ble_eq_true rfl)) (Nat.le_of_ble_eq_true rfl) (by omega) (by omega) (c_M_row (d := 10) (by omega) hset.2.1.1 hset.2.1.2 hset.2.2.1 hset.2.2.2 hset.1.1 hset.1.2 hP1.1 hP1.2.1 hP1.2.2.1 hP1.2.2.2.1 hP1.2.2.2.2 (fun i hi => (hq i hi).1) (fun i hi => (hq i hi).2.1) (by omega) (by omega) (by omega) hP2.1 hP2.2 hN1 (fun h => absurd (sp_t40 e1 e2) h) (fun _ h => absurd e3 h) (fun n2 g1 g2 g3 g4 g5 M2 hN2 hf2 => ?_) (fun n2 r thr g1 g2 g3 g4 g5 g6 => by rw [← g5, e5] at g6; cases g6) (fun n2 g1 g2 g3 g4 => absurd (e4.symm.trans g4) (by decide)) (fun n2 g1 g2 g3 g4 => absurd (e4.symm.trans g4) (by decide)) (fun n2 g1 g2 g3 g4 => absurd (e4.symm.trans g4) (by decide)) (fun n2 g1 g2 g3 g4 => absurd (e4.symm.trans g4) (by decide)) (fun n2 g1 g2 g3 g4 => absurd (e4.symm.trans g4) (by decide)) (fun n2 g1 g2 g3 g4 => absurd (e4.symm.trans g4) (by decide)))
    try dsimp only [Option.toList, List.cons_append, List.nil_append]
    · try dsimp only [Option.toList, List.cons_append, List.nil_append]
      refine jx_istore d_L_law_609 (Nat.le_of_ble_eq_true rfl) (jx_e8_6 (by trivial)) ?_
      exact tx_row (jx_okl hRm (by omega) (by omega)) (by omega) (by omega) (by decide) hN2 (jx_wi (by omega) (by omega) (k M2 _ (fin M2 _ _ _ hsz hN2 (fun q hq => hf2 q (by omega)) ((hf2 _ (by omega)).trans hout))))
  · try dsimp only [Option.toList, List.cons_append, List.nil_append]
    have hN1 := fun e => hN.to (M' := jx_up M1 (a + 23) e) (fun q q1 q2 => (jx_up_n _ _ (by omega)).trans (fr1 q (by omega) (by omega)))
    have hB1 := fun e => (jx_up_n M1 e (show a + 9 ≠ a + 23 by omega)).trans ((fr1 _ (by omega) (by omega)).trans hB)
    refine jx_istore d_L_law_536 (Nat.le_of_ble_eq_true rfl) (jx_e8_5 (by trivial)) ?_
    refine jx_aload_n (i := 2) d_L_law_538 rfl rfl ?_
    refine jx_aload_n (i := 0) d_L_law_539 rfl rfl ?_
    refine jx_iload d_L_law_540 rfl ?_
    refine jx_iconst (v := 1) d_L_law_542 (by decide) ?_
    refine jx_iadd d_L_law_543 ?_
    refine jx_sldj d_L_law_544 (es1 _) (by omega) (by assumption) ?_
    refine jx_i2l d_L_law_545 ?_
    refine jx_bipush (v := 32) d_L_law_546 (by decide) ?_
    refine jx_lshl d_L_law_548 ?_
    refine jx_aload_n (i := 0) d_L_law_549 rfl rfl ?_
    refine jx_iload d_L_law_550 rfl ?_
    refine jx_iconst (v := 2) d_L_law_552 (by decide) ?_
    refine jx_iadd d_L_law_553 ?_
    refine jx_sldj d_L_law_554 (es2 _) (by omega) (by assumption) ?_
    refine jx_i2l d_L_law_555 ?_
    refine jx_ldc2 d_L_law_556 rfl nv_L_82 ?_
    refine jx_land d_L_law_559 ?_
    refine jx_lor d_L_law_560 ?_
    refine jx_aload_n (i := 0) d_L_law_561 rfl rfl ?_
    refine jx_iload d_L_law_562 rfl ?_
    refine jx_iconst (v := 3) d_L_law_564 (by decide) ?_
    refine jx_iadd d_L_law_565 ?_
    refine jx_sldj d_L_law_566 (es3 _) (by omega) (by assumption) ?_
    refine jx_i2l d_L_law_567 ?_
    refine jx_bipush (v := 32) d_L_law_568 (by decide) ?_
    refine jx_lshl d_L_law_570 ?_
    refine jx_aload_n (i := 0) d_L_law_571 rfl rfl ?_
    refine jx_iload d_L_law_572 rfl ?_
    refine jx_iconst (v := 4) d_L_law_574 (by decide) ?_
    refine jx_iadd d_L_law_575 ?_
    refine jx_sldj d_L_law_576 (es4 _) (by omega) (by assumption) ?_
    refine jx_i2l d_L_law_577 ?_
    refine jx_ldc2 d_L_law_578 rfl nv_L_82 ?_
    refine jx_land d_L_law_581 ?_
    refine jx_lor d_L_law_582 ?_
    refine jx_aload_n (i := 0) d_L_law_583 rfl rfl ?_
    refine jx_iload d_L_law_584 rfl ?_
    refine jx_iconst (v := 5) d_L_law_586 (by decide) ?_
    refine jx_iadd d_L_law_587 ?_
    refine jx_sldj d_L_law_588 (es5 _) (by omega) (by assumption) ?_
    refine jx_i2l d_L_law_589 ?_
    refine jx_bipush (v := 32) d_L_law_590 (by decide) ?_
    refine jx_lshl d_L_law_592 ?_
    refine jx_aload_n (i := 0) d_L_law_593 rfl rfl ?_
    refine jx_iload d_L_law_594 rfl ?_
    refine jx_bipush (v := 6) d_L_law_596 (by decide) ?_
    refine jx_iadd d_L_law_598 ?_
    refine jx_sldj d_L_law_599 (es6 _) (by omega) (by assumption) ?_
    refine jx_i2l d_L_law_600 ?_
    refine jx_ldc2 d_L_law_601 rfl nv_L_82 ?_
    refine jx_land d_L_law_604 ?_
    refine jx_lor d_L_law_605 ?_
    refine jx_callV3 d_L_law_606 mv_L_103 (hB1 _) rfl (jx_okl hRm (by omega) (Nat.le_of_ble_eq_true rfl)) (Nat.le_of_ble_eq_true rfl) (by omega) (by omega) (c_M_row (d := 10) (by omega) hset.2.1.1 hset.2.1.2 hset.2.2.1 hset.2.2.2 hset.1.1 hset.1.2 hP1.1 hP1.2.1 hP1.2.2.1 hP1.2.2.2.1 hP1.2.2.2.2 (fun i hi => (hq i hi).1) (fun i hi => (hq i hi).2.1) (by omega) (by omega) (by omega) hP2.1 hP2.2 (hN1 _) (fun h => absurd (sp_t40 e1 e2) h) (fun _ h => absurd e3 h) (fun n2 g1 g2 g3 g4 g5 => by rw [e5, e6] at g5; cases g5) (fun n2 r2 thr2 g1 g2 g3 g4 g5 g6 g7 M2 hN2 hf2 => ?_) (fun n2 g1 g2 g3 g4 => absurd (e4.symm.trans g4) (by decide)) (fun n2 g1 g2 g3 g4 => absurd (e4.symm.trans g4) (by decide)) (fun n2 g1 g2 g3 g4 => absurd (e4.symm.trans g4) (by decide)) (fun n2 g1 g2 g3 g4 => absurd (e4.symm.trans g4) (by decide)) (fun n2 g1 g2 g3 g4 => absurd (e4.symm.trans g4) (by decide)) (fun n2 g1 g2 g3 g4 => absurd (e4.symm.trans g4) (by decide)))
    try dsimp only [Option.toList, List.cons_append, List.nil_append]
    · try dsimp only [Option.toList, List.cons_append, List.nil_append]
      obtain rfl : n2 = n := (pk_lEQ (by omega) (by omega)).mp (g1.symm.trans e1)
      obtain rfl : r2 = r := g5.symm.trans e5
      obtain rfl : thr2 = thr := g7.trans e7.symm
      have hrk : ∀ j, r2 = some j → j < nK := fun j hj => (sp_ix_lt (e5.trans hj)).1
      have hk8 : ∀ f, f < nF → (fd f).1 ≤ 8 := fun f hf => (w8.1.2.2 f hf).1
      refine jx_istore d_L_law_609 (Nat.le_of_ble_eq_true rfl) (jx_e8_6 (by trivial)) ?_
      exact t0_row (jx_okl hRm (by omega) (by omega)) (by omega) (by omega) hN2 ((hf2 _ (by omega)).trans (jx_up_s _ _ _)) (jx_wi (by omega) (by omega) (k M2 _ (JI.ok hW1 hN2 hf2 (Nat.le_trans hlo hsz) (sp_J.take hP hW1.2.2.2.2.2.2.2.2.2.1 hk8 hrk e1 e2))))
  · try dsimp only [Option.toList, List.cons_append, List.nil_append]
    have hN1 := fun e => hN.to (M' := jx_up M1 (a + 23) e) (fun q q1 q2 => (jx_up_n _ _ (by omega)).trans (fr1 q (by omega) (by omega)))
    have hB1 := fun e => (jx_up_n M1 e (show a + 9 ≠ a + 23 by omega)).trans ((fr1 _ (by omega) (by omega)).trans hB)
    refine jx_istore d_L_law_536 (Nat.le_of_ble_eq_true rfl) (jx_e8_5 (by trivial)) ?_
    refine jx_aload_n (i := 2) d_L_law_538 rfl rfl ?_
    refine jx_aload_n (i := 0) d_L_law_539 rfl rfl ?_
    refine jx_iload d_L_law_540 rfl ?_
    refine jx_iconst (v := 1) d_L_law_542 (by decide) ?_
    refine jx_iadd d_L_law_543 ?_
    refine jx_sldj d_L_law_544 (es1 _) (by omega) (by assumption) ?_
    refine jx_i2l d_L_law_545 ?_
    refine jx_bipush (v := 32) d_L_law_546 (by decide) ?_
    refine jx_lshl d_L_law_548 ?_
    refine jx_aload_n (i := 0) d_L_law_549 rfl rfl ?_
    refine jx_iload d_L_law_550 rfl ?_
    refine jx_iconst (v := 2) d_L_law_552 (by decide) ?_
    refine jx_iadd d_L_law_553 ?_
    refine jx_sldj d_L_law_554 (es2 _) (by omega) (by assumption) ?_
    refine jx_i2l d_L_law_555 ?_
    refine jx_ldc2 d_L_law_556 rfl nv_L_82 ?_
    refine jx_land d_L_law_559 ?_
    refine jx_lor d_L_law_560 ?_
    refine jx_aload_n (i := 0) d_L_law_561 rfl rfl ?_
    refine jx_iload d_L_law_562 rfl ?_
    refine jx_iconst (v := 3) d_L_law_564 (by decide) ?_
    refine jx_iadd d_L_law_565 ?_
    refine jx_sldj d_L_law_566 (es3 _) (by omega) (by assumption) ?_
    refine jx_i2l d_L_law_567 ?_
    refine jx_bipush (v := 32) d_L_law_568 (by decide) ?_
    refine jx_lshl d_L_law_570 ?_
    refine jx_aload_n (i := 0) d_L_law_571 rfl rfl ?_
    refine jx_iload d_L_law_572 rfl ?_
    refine jx_iconst (v := 4) d_L_law_574 (by decide) ?_
    refine jx_iadd d_L_law_575 ?_
    refine jx_sldj d_L_law_576 (es4 _) (by omega) (by assumption) ?_
    refine jx_i2l d_L_law_577 ?_
    refine jx_ldc2 d_L_law_578 rfl nv_L_82 ?_
    refine jx_land d_L_law_581 ?_
    refine jx_lor d_L_law_582 ?_
    refine jx_aload_n (i := 0) d_L_law_583 rfl rfl ?_
    refine jx_iload d_L_law_584 rfl ?_
    refine jx_iconst (v := 5) d_L_law_586 (by decide) ?_
    refine jx_iadd d_L_law_587 ?_
    refine jx_sldj d_L_law_588 (es5 _) (by omega) (by assumption) ?_
    refine jx_i2l d_L_law_589 ?_
    refine jx_bipush (v := 32) d_L_law_590 (by decide) ?_
    refine jx_lshl d_L_law_592 ?_
    refine jx_aload_n (i := 0) d_L_law_593 rfl rfl ?_
    refine jx_iload d_L_law_594 rfl ?_
    refine jx_bipush (v := 6) d_L_law_596 (by decide) ?_
    refine jx_iadd d_L_law_598 ?_
    refine jx_sldj d_L_law_599 (es6 _) (by omega) (by assumption) ?_
    refine jx_i2l d_L_law_600 ?_
    refine jx_ldc2 d_L_law_601 rfl nv_L_82 ?_
    refine jx_land d_L_law_604 ?_
    refine jx_lor d_L_law_605 ?_
    refine jx_callV3 d_L_law_606 mv_L_103 (hB1 _) rfl (jx_okl hRm (by omega) (Nat.le_of_ble_eq_true rfl)) (Nat.le_of_ble_eq_true rfl) (by omega) (by omega) (c_M_row (d := 10) (by omega) hset.2.1.1 hset.2.1.2 hset.2.2.1 hset.2.2.2 hset.1.1 hset.1.2 hP1.1 hP1.2.1 hP1.2.2.1 hP1.2.2.2.1 hP1.2.2.2.2 (fun i hi => (hq i hi).1) (fun i hi => (hq i hi).2.1) (by omega) (by omega) (by omega) hP2.1 hP2.2 (hN1 _) (fun h => absurd (sp_t40 e1 e2) h) (fun _ h => absurd e3 h) (fun n2 g1 g2 g3 g4 => absurd (e4.symm.trans g4) (by decide)) (fun n2 r thr g1 g2 g3 g4 => absurd (e4.symm.trans g4) (by decide)) (fun n2 g1 g2 g3 g4 M2 hN2 hf2 => ?_) (fun n2 g1 g2 g3 g4 => absurd (e4.symm.trans g4) (by decide)) (fun n2 g1 g2 g3 g4 => absurd (e4.symm.trans g4) (by decide)) (fun n2 g1 g2 g3 g4 => absurd (e4.symm.trans g4) (by decide)) (fun n2 g1 g2 g3 g4 => absurd (e4.symm.trans g4) (by decide)) (fun n2 g1 g2 g3 g4 => absurd (e4.symm.trans g4) (by decide)))
    try dsimp only [Option.toList, List.cons_append, List.nil_append]
    · try dsimp only [Option.toList, List.cons_append, List.nil_append]
      refine jx_istore d_L_law_609 (Nat.le_of_ble_eq_true rfl) (jx_e8_6 (by trivial)) ?_
      exact t0_row (jx_okl hRm (by omega) (by omega)) (by omega) (by omega) hN2 ((hf2 _ (by omega)).trans (jx_up_s _ _ _)) (jx_wi (by omega) (by omega) (k M2 _ (JI.ok hW1 hN2 hf2 hlo ⟨hP1, hP2, hq, hP4, ⟨hP5.1, by omega, hP5.2.2⟩, by omega, by omega, by omega⟩)))
  · try dsimp only [Option.toList, List.cons_append, List.nil_append]
    have hN1 := fun e => hN.to (M' := jx_up M1 (a + 23) e) (fun q q1 q2 => (jx_up_n _ _ (by omega)).trans (fr1 q (by omega) (by omega)))
    have hB1 := fun e => (jx_up_n M1 e (show a + 9 ≠ a + 23 by omega)).trans ((fr1 _ (by omega) (by omega)).trans hB)
    refine jx_istore d_L_law_536 (Nat.le_of_ble_eq_true rfl) (jx_e8_5 (by trivial)) ?_
    refine jx_aload_n (i := 2) d_L_law_538 rfl rfl ?_
    refine jx_aload_n (i := 0) d_L_law_539 rfl rfl ?_
    refine jx_iload d_L_law_540 rfl ?_
    refine jx_iconst (v := 1) d_L_law_542 (by decide) ?_
    refine jx_iadd d_L_law_543 ?_
    refine jx_sldj d_L_law_544 (es1 _) (by omega) (by assumption) ?_
    refine jx_i2l d_L_law_545 ?_
    refine jx_bipush (v := 32) d_L_law_546 (by decide) ?_
    refine jx_lshl d_L_law_548 ?_
    refine jx_aload_n (i := 0) d_L_law_549 rfl rfl ?_
    refine jx_iload d_L_law_550 rfl ?_
    refine jx_iconst (v := 2) d_L_law_552 (by decide) ?_
    refine jx_iadd d_L_law_553 ?_
    refine jx_sldj d_L_law_554 (es2 _) (by omega) (by assumption) ?_
    refine jx_i2l d_L_law_555 ?_
    refine jx_ldc2 d_L_law_556 rfl nv_L_82 ?_
    refine jx_land d_L_law_559 ?_
    refine jx_lor d_L_law_560 ?_
    refine jx_aload_n (i := 0) d_L_law_561 rfl rfl ?_
    refine jx_iload d_L_law_562 rfl ?_
    refine jx_iconst (v := 3) d_L_law_564 (by decide) ?_
    refine jx_iadd d_L_law_565 ?_
    refine jx_sldj d_L_law_566 (es3 _) (by omega) (by assumption) ?_
    refine jx_i2l d_L_law_567 ?_
    refine jx_bipush (v := 32) d_L_law_568 (by decide) ?_
    refine jx_lshl d_L_law_570 ?_
    refine jx_aload_n (i := 0) d_L_law_571 rfl rfl ?_
    refine jx_iload d_L_law_572 rfl ?_
    refine jx_iconst (v := 4) d_L_law_574 (by decide) ?_
    refine jx_iadd d_L_law_575 ?_
    refine jx_sldj d_L_law_576 (es4 _) (by omega) (by assumption) ?_
    refine jx_i2l d_L_law_577 ?_
    refine jx_ldc2 d_L_law_578 rfl nv_L_82 ?_
    refine jx_land d_L_law_581 ?_
    refine jx_lor d_L_law_582 ?_
    refine jx_aload_n (i := 0) d_L_law_583 rfl rfl ?_
    refine jx_iload d_L_law_584 rfl ?_
    refine jx_iconst (v := 5) d_L_law_586 (by decide) ?_
    refine jx_iadd d_L_law_587 ?_
    refine jx_sldj d_L_law_588 (es5 _) (by omega) (by assumption) ?_
    refine jx_i2l d_L_law_589 ?_
    refine jx_bipush (v := 32) d_L_law_590 (by decide) ?_
    refine jx_lshl d_L_law_592 ?_
    refine jx_aload_n (i := 0) d_L_law_593 rfl rfl ?_
    refine jx_iload d_L_law_594 rfl ?_
    refine jx_bipush (v := 6) d_L_law_596 (by decide) ?_
    refine jx_iadd d_L_law_598 ?_
    refine jx_sldj d_L_law_599 (es6 _) (by omega) (by assumption) ?_
    refine jx_i2l d_L_law_600 ?_
    refine jx_ldc2 d_L_law_601 rfl nv_L_82 ?_
    refine jx_land d_L_law_604 ?_
    refine jx_lor d_L_law_605 ?_
    refine jx_callV3 d_L_law_606 mv_L_103 (hB1 _) rfl (jx_okl hRm (by omega) (Nat.le_of_ble_eq_true rfl)) (Nat.le_of_ble_eq_true rfl) (by omega) (by omega) (c_M_row (d := 10) (by omega) hset.2.1.1 hset.2.1.2 hset.2.2.1 hset.2.2.2 hset.1.1 hset.1.2 hP1.1 hP1.2.1 hP1.2.2.1 hP1.2.2.2.1 hP1.2.2.2.2 (fun i hi => (hq i hi).1) (fun i hi => (hq i hi).2.1) (by omega) (by omega) (by omega) hP2.1 hP2.2 (hN1 _) (fun h => absurd (sp_t40 e1 e2) h) (fun _ h => absurd e3 h) (fun n2 g1 g2 g3 g4 => absurd (e4.symm.trans g4) (by decide)) (fun n2 r thr g1 g2 g3 g4 => absurd (e4.symm.trans g4) (by decide)) (fun n2 g1 g2 g3 g4 => absurd (e4.symm.trans g4) (by decide)) (fun n2 g1 g2 g3 g4 M2 hN2 hf2 => ?_) (fun n2 g1 g2 g3 g4 => absurd (e4.symm.trans g4) (by decide)) (fun n2 g1 g2 g3 g4 => absurd (e4.symm.trans g4) (by decide)) (fun n2 g1 g2 g3 g4 => absurd (e4.symm.trans g4) (by decide)) (fun n2 g1 g2 g3 g4 => absurd (e4.symm.trans g4) (by decide)))
    try dsimp only [Option.toList, List.cons_append, List.nil_append]
    · try dsimp only [Option.toList, List.cons_append, List.nil_append]
      refine jx_istore d_L_law_609 (Nat.le_of_ble_eq_true rfl) (jx_e8_6 (by trivial)) ?_
      exact t0_row (jx_okl hRm (by omega) (by omega)) (by omega) (by omega) hN2 ((hf2 _ (by omega)).trans (jx_up_s _ _ _)) (jx_wi (by omega) (by omega) (k M2 _ (JI.ok hW1 hN2 hf2 hlo ⟨hP1, hP2, hq, hP4, ⟨hP5.1, by omega, hP5.2.2⟩, by omega, by omega, by omega⟩)))
  · try dsimp only [Option.toList, List.cons_append, List.nil_append]
    have hN1 := fun e => hN.to (M' := jx_up M1 (a + 23) e) (fun q q1 q2 => (jx_up_n _ _ (by omega)).trans (fr1 q (by omega) (by omega)))
    have hB1 := fun e => (jx_up_n M1 e (show a + 9 ≠ a + 23 by omega)).trans ((fr1 _ (by omega) (by omega)).trans hB)
    refine jx_istore d_L_law_536 (Nat.le_of_ble_eq_true rfl) (jx_e8_5 (by trivial)) ?_
    refine jx_aload_n (i := 2) d_L_law_538 rfl rfl ?_
    refine jx_aload_n (i := 0) d_L_law_539 rfl rfl ?_
    refine jx_iload d_L_law_540 rfl ?_
    refine jx_iconst (v := 1) d_L_law_542 (by decide) ?_
    refine jx_iadd d_L_law_543 ?_
    refine jx_sldj d_L_law_544 (es1 _) (by omega) (by assumption) ?_
    refine jx_i2l d_L_law_545 ?_
    refine jx_bipush (v := 32) d_L_law_546 (by decide) ?_
    refine jx_lshl d_L_law_548 ?_
    refine jx_aload_n (i := 0) d_L_law_549 rfl rfl ?_
    refine jx_iload d_L_law_550 rfl ?_
    refine jx_iconst (v := 2) d_L_law_552 (by decide) ?_
    refine jx_iadd d_L_law_553 ?_
    refine jx_sldj d_L_law_554 (es2 _) (by omega) (by assumption) ?_
    refine jx_i2l d_L_law_555 ?_
    refine jx_ldc2 d_L_law_556 rfl nv_L_82 ?_
    refine jx_land d_L_law_559 ?_
    refine jx_lor d_L_law_560 ?_
    refine jx_aload_n (i := 0) d_L_law_561 rfl rfl ?_
    refine jx_iload d_L_law_562 rfl ?_
    refine jx_iconst (v := 3) d_L_law_564 (by decide) ?_
    refine jx_iadd d_L_law_565 ?_
    refine jx_sldj d_L_law_566 (es3 _) (by omega) (by assumption) ?_
    refine jx_i2l d_L_law_567 ?_
    refine jx_bipush (v := 32) d_L_law_568 (by decide) ?_
    refine jx_lshl d_L_law_570 ?_
    refine jx_aload_n (i := 0) d_L_law_571 rfl rfl ?_
    refine jx_iload d_L_law_572 rfl ?_
    refine jx_iconst (v := 4) d_L_law_574 (by decide) ?_
    refine jx_iadd d_L_law_575 ?_
    refine jx_sldj d_L_law_576 (es4 _) (by omega) (by assumption) ?_
    refine jx_i2l d_L_law_577 ?_
    refine jx_ldc2 d_L_law_578 rfl nv_L_82 ?_
    refine jx_land d_L_law_581 ?_
    refine jx_lor d_L_law_582 ?_
    refine jx_aload_n (i := 0) d_L_law_583 rfl rfl ?_
    refine jx_iload d_L_law_584 rfl ?_
    refine jx_iconst (v := 5) d_L_law_586 (by decide) ?_
    refine jx_iadd d_L_law_587 ?_
    refine jx_sldj d_L_law_588 (es5 _) (by omega) (by assumption) ?_
    refine jx_i2l d_L_law_589 ?_
    refine jx_bipush (v := 32) d_L_law_590 (by decide) ?_
    refine jx_lshl d_L_law_592 ?_
    refine jx_aload_n (i := 0) d_L_law_593 rfl rfl ?_
    refine jx_iload d_L_law_594 rfl ?_
    refine jx_bipush (v := 6) d_L_law_596 (by decide) ?_
    refine jx_iadd d_L_law_598 ?_
    refine jx_sldj d_L_law_599 (es6 _) (by omega) (by assumption) ?_
    refine jx_i2l d_L_law_600 ?_
    refine jx_ldc2 d_L_law_601 rfl nv_L_82 ?_
    refine jx_land d_L_law_604 ?_
    refine jx_lor d_L_law_605 ?_
    refine jx_callV3 d_L_law_606 mv_L_103 (hB1 _) rfl (jx_okl hRm (by omega) (Nat.le_of_ble_eq_true rfl)) (Nat.le_of_ble_eq_true rfl) (by omega) (by omega) (c_M_row (d := 10) (by omega) hset.2.1.1 hset.2.1.2 hset.2.2.1 hset.2.2.2 hset.1.1 hset.1.2 hP1.1 hP1.2.1 hP1.2.2.1 hP1.2.2.2.1 hP1.2.2.2.2 (fun i hi => (hq i hi).1) (fun i hi => (hq i hi).2.1) (by omega) (by omega) (by omega) hP2.1 hP2.2 (hN1 _) (fun h => absurd (sp_t40 e1 e2) h) (fun _ h => absurd e3 h) (fun n2 g1 g2 g3 g4 => absurd (e4.symm.trans g4) (by decide)) (fun n2 r thr g1 g2 g3 g4 => absurd (e4.symm.trans g4) (by decide)) (fun n2 g1 g2 g3 g4 => absurd (e4.symm.trans g4) (by decide)) (fun n2 g1 g2 g3 g4 => absurd (e4.symm.trans g4) (by decide)) (fun n2 g1 g2 g3 g4 M2 hN2 hf2 => ?_) (fun n2 g1 g2 g3 g4 => absurd (e4.symm.trans g4) (by decide)) (fun n2 g1 g2 g3 g4 => absurd (e4.symm.trans g4) (by decide)) (fun n2 g1 g2 g3 g4 => absurd (e4.symm.trans g4) (by decide)))
    try dsimp only [Option.toList, List.cons_append, List.nil_append]
    · try dsimp only [Option.toList, List.cons_append, List.nil_append]
      refine jx_istore d_L_law_609 (Nat.le_of_ble_eq_true rfl) (jx_e8_6 (by trivial)) ?_
      exact t0_row (jx_okl hRm (by omega) (by omega)) (by omega) (by omega) hN2 ((hf2 _ (by omega)).trans (jx_up_s _ _ _)) (jx_wi (by omega) (by omega) (k M2 _ (JI.ok hW1 hN2 hf2 hlo ⟨hP1, hP2, hq, hP4, ⟨hP5.1, by omega, hP5.2.2⟩, by omega, by omega, by omega⟩)))
  · try dsimp only [Option.toList, List.cons_append, List.nil_append]
    have hN1 := fun e => hN.to (M' := jx_up M1 (a + 23) e) (fun q q1 q2 => (jx_up_n _ _ (by omega)).trans (fr1 q (by omega) (by omega)))
    have hB1 := fun e => (jx_up_n M1 e (show a + 9 ≠ a + 23 by omega)).trans ((fr1 _ (by omega) (by omega)).trans hB)
    refine jx_istore d_L_law_536 (Nat.le_of_ble_eq_true rfl) (jx_e8_5 (by trivial)) ?_
    refine jx_aload_n (i := 2) d_L_law_538 rfl rfl ?_
    refine jx_aload_n (i := 0) d_L_law_539 rfl rfl ?_
    refine jx_iload d_L_law_540 rfl ?_
    refine jx_iconst (v := 1) d_L_law_542 (by decide) ?_
    refine jx_iadd d_L_law_543 ?_
    refine jx_sldj d_L_law_544 (es1 _) (by omega) (by assumption) ?_
    refine jx_i2l d_L_law_545 ?_
    refine jx_bipush (v := 32) d_L_law_546 (by decide) ?_
    refine jx_lshl d_L_law_548 ?_
    refine jx_aload_n (i := 0) d_L_law_549 rfl rfl ?_
    refine jx_iload d_L_law_550 rfl ?_
    refine jx_iconst (v := 2) d_L_law_552 (by decide) ?_
    refine jx_iadd d_L_law_553 ?_
    refine jx_sldj d_L_law_554 (es2 _) (by omega) (by assumption) ?_
    refine jx_i2l d_L_law_555 ?_
    refine jx_ldc2 d_L_law_556 rfl nv_L_82 ?_
    refine jx_land d_L_law_559 ?_
    refine jx_lor d_L_law_560 ?_
    refine jx_aload_n (i := 0) d_L_law_561 rfl rfl ?_
    refine jx_iload d_L_law_562 rfl ?_
    refine jx_iconst (v := 3) d_L_law_564 (by decide) ?_
    refine jx_iadd d_L_law_565 ?_
    refine jx_sldj d_L_law_566 (es3 _) (by omega) (by assumption) ?_
    refine jx_i2l d_L_law_567 ?_
    refine jx_bipush (v := 32) d_L_law_568 (by decide) ?_
    refine jx_lshl d_L_law_570 ?_
    refine jx_aload_n (i := 0) d_L_law_571 rfl rfl ?_
    refine jx_iload d_L_law_572 rfl ?_
    refine jx_iconst (v := 4) d_L_law_574 (by decide) ?_
    refine jx_iadd d_L_law_575 ?_
    refine jx_sldj d_L_law_576 (es4 _) (by omega) (by assumption) ?_
    refine jx_i2l d_L_law_577 ?_
    refine jx_ldc2 d_L_law_578 rfl nv_L_82 ?_
    refine jx_land d_L_law_581 ?_
    refine jx_lor d_L_law_582 ?_
    refine jx_aload_n (i := 0) d_L_law_583 rfl rfl ?_
    refine jx_iload d_L_law_584 rfl ?_
    refine jx_iconst (v := 5) d_L_law_586 (by decide) ?_
    refine jx_iadd d_L_law_587 ?_
    refine jx_sldj d_L_law_588 (es5 _) (by omega) (by assumption) ?_
    refine jx_i2l d_L_law_589 ?_
    refine jx_bipush (v := 32) d_L_law_590 (by decide) ?_
    refine jx_lshl d_L_law_592 ?_
    refine jx_aload_n (i := 0) d_L_law_593 rfl rfl ?_
    refine jx_iload d_L_law_594 rfl ?_
    refine jx_bipush (v := 6) d_L_law_596 (by decide) ?_
    refine jx_iadd d_L_law_598 ?_
    refine jx_sldj d_L_law_599 (es6 _) (by omega) (by assumption) ?_
    refine jx_i2l d_L_law_600 ?_
    refine jx_ldc2 d_L_law_601 rfl nv_L_82 ?_
    refine jx_land d_L_law_604 ?_
    refine jx_lor d_L_law_605 ?_
    refine jx_callV3 d_L_law_606 mv_L_103 (hB1 _) rfl (jx_okl hRm (by omega) (Nat.le_of_ble_eq_true rfl)) (Nat.le_of_ble_eq_true rfl) (by omega) (by omega) (c_M_row (d := 10) (by omega) hset.2.1.1 hset.2.1.2 hset.2.2.1 hset.2.2.2 hset.1.1 hset.1.2 hP1.1 hP1.2.1 hP1.2.2.1 hP1.2.2.2.1 hP1.2.2.2.2 (fun i hi => (hq i hi).1) (fun i hi => (hq i hi).2.1) (by omega) (by omega) (by omega) hP2.1 hP2.2 (hN1 _) (fun h => absurd (sp_t40 e1 e2) h) (fun _ h => absurd e3 h) (fun n2 g1 g2 g3 g4 => absurd (e4.symm.trans g4) (by decide)) (fun n2 r thr g1 g2 g3 g4 => absurd (e4.symm.trans g4) (by decide)) (fun n2 g1 g2 g3 g4 => absurd (e4.symm.trans g4) (by decide)) (fun n2 g1 g2 g3 g4 => absurd (e4.symm.trans g4) (by decide)) (fun n2 g1 g2 g3 g4 => absurd (e4.symm.trans g4) (by decide)) (fun n2 g1 g2 g3 g4 M2 hN2 hf2 => ?_) (fun n2 g1 g2 g3 g4 => absurd (e4.symm.trans g4) (by decide)) (fun n2 g1 g2 g3 g4 => absurd (e4.symm.trans g4) (by decide)))
    try dsimp only [Option.toList, List.cons_append, List.nil_append]
    · try dsimp only [Option.toList, List.cons_append, List.nil_append]
      refine jx_istore d_L_law_609 (Nat.le_of_ble_eq_true rfl) (jx_e8_6 (by trivial)) ?_
      exact t0_row (jx_okl hRm (by omega) (by omega)) (by omega) (by omega) hN2 ((hf2 _ (by omega)).trans (jx_up_s _ _ _)) (jx_wi (by omega) (by omega) (k M2 _ (JI.ok hW1 hN2 hf2 hlo ⟨hP1, hP2, hq, hP4, ⟨hP5.1, by omega, hP5.2.2⟩, by omega, by omega, by omega⟩)))
  · try dsimp only [Option.toList, List.cons_append, List.nil_append]
    have hN1 := fun e => hN.to (M' := jx_up M1 (a + 23) e) (fun q q1 q2 => (jx_up_n _ _ (by omega)).trans (fr1 q (by omega) (by omega)))
    have hB1 := fun e => (jx_up_n M1 e (show a + 9 ≠ a + 23 by omega)).trans ((fr1 _ (by omega) (by omega)).trans hB)
    refine jx_istore d_L_law_536 (Nat.le_of_ble_eq_true rfl) (jx_e8_5 (by trivial)) ?_
    refine jx_aload_n (i := 2) d_L_law_538 rfl rfl ?_
    refine jx_aload_n (i := 0) d_L_law_539 rfl rfl ?_
    refine jx_iload d_L_law_540 rfl ?_
    refine jx_iconst (v := 1) d_L_law_542 (by decide) ?_
    refine jx_iadd d_L_law_543 ?_
    refine jx_sldj d_L_law_544 (es1 _) (by omega) (by assumption) ?_
    refine jx_i2l d_L_law_545 ?_
    refine jx_bipush (v := 32) d_L_law_546 (by decide) ?_
    refine jx_lshl d_L_law_548 ?_
    refine jx_aload_n (i := 0) d_L_law_549 rfl rfl ?_
    refine jx_iload d_L_law_550 rfl ?_
    refine jx_iconst (v := 2) d_L_law_552 (by decide) ?_
    refine jx_iadd d_L_law_553 ?_
    refine jx_sldj d_L_law_554 (es2 _) (by omega) (by assumption) ?_
    refine jx_i2l d_L_law_555 ?_
    refine jx_ldc2 d_L_law_556 rfl nv_L_82 ?_
    refine jx_land d_L_law_559 ?_
    refine jx_lor d_L_law_560 ?_
    refine jx_aload_n (i := 0) d_L_law_561 rfl rfl ?_
    refine jx_iload d_L_law_562 rfl ?_
    refine jx_iconst (v := 3) d_L_law_564 (by decide) ?_
    refine jx_iadd d_L_law_565 ?_
    refine jx_sldj d_L_law_566 (es3 _) (by omega) (by assumption) ?_
    refine jx_i2l d_L_law_567 ?_
    refine jx_bipush (v := 32) d_L_law_568 (by decide) ?_
    refine jx_lshl d_L_law_570 ?_
    refine jx_aload_n (i := 0) d_L_law_571 rfl rfl ?_
    refine jx_iload d_L_law_572 rfl ?_
    refine jx_iconst (v := 4) d_L_law_574 (by decide) ?_
    refine jx_iadd d_L_law_575 ?_
    refine jx_sldj d_L_law_576 (es4 _) (by omega) (by assumption) ?_
    refine jx_i2l d_L_law_577 ?_
    refine jx_ldc2 d_L_law_578 rfl nv_L_82 ?_
    refine jx_land d_L_law_581 ?_
    refine jx_lor d_L_law_582 ?_
    refine jx_aload_n (i := 0) d_L_law_583 rfl rfl ?_
    refine jx_iload d_L_law_584 rfl ?_
    refine jx_iconst (v := 5) d_L_law_586 (by decide) ?_
    refine jx_iadd d_L_law_587 ?_
    refine jx_sldj d_L_law_588 (es5 _) (by omega) (by assumption) ?_
    refine jx_i2l d_L_law_589 ?_
    refine jx_bipush (v := 32) d_L_law_590 (by decide) ?_
    refine jx_lshl d_L_law_592 ?_
    refine jx_aload_n (i := 0) d_L_law_593 rfl rfl ?_
    refine jx_iload d_L_law_594 rfl ?_
    refine jx_bipush (v := 6) d_L_law_596 (by decide) ?_
    refine jx_iadd d_L_law_598 ?_
    refine jx_sldj d_L_law_599 (es6 _) (by omega) (by assumption) ?_
    refine jx_i2l d_L_law_600 ?_
    refine jx_ldc2 d_L_law_601 rfl nv_L_82 ?_
    refine jx_land d_L_law_604 ?_
    refine jx_lor d_L_law_605 ?_
    refine jx_callV3 d_L_law_606 mv_L_103 (hB1 _) rfl (jx_okl hRm (by omega) (Nat.le_of_ble_eq_true rfl)) (Nat.le_of_ble_eq_true rfl) (by omega) (by omega) (c_M_row (d := 10) (by omega) hset.2.1.1 hset.2.1.2 hset.2.2.1 hset.2.2.2 hset.1.1 hset.1.2 hP1.1 hP1.2.1 hP1.2.2.1 hP1.2.2.2.1 hP1.2.2.2.2 (fun i hi => (hq i hi).1) (fun i hi => (hq i hi).2.1) (by omega) (by omega) (by omega) hP2.1 hP2.2 (hN1 _) (fun h => absurd (sp_t40 e1 e2) h) (fun _ h => absurd e3 h) (fun n2 g1 g2 g3 g4 => absurd (e4.symm.trans g4) (by decide)) (fun n2 r thr g1 g2 g3 g4 => absurd (e4.symm.trans g4) (by decide)) (fun n2 g1 g2 g3 g4 => absurd (e4.symm.trans g4) (by decide)) (fun n2 g1 g2 g3 g4 => absurd (e4.symm.trans g4) (by decide)) (fun n2 g1 g2 g3 g4 => absurd (e4.symm.trans g4) (by decide)) (fun n2 g1 g2 g3 g4 => absurd (e4.symm.trans g4) (by decide)) (fun n2 g1 g2 g3 g4 M2 hN2 hf2 => ?_) (fun n2 g1 g2 g3 g4 => absurd (e4.symm.trans g4) (by decide)))
    try dsimp only [Option.toList, List.cons_append, List.nil_append]
    · try dsimp only [Option.toList, List.cons_append, List.nil_append]
      refine jx_istore d_L_law_609 (Nat.le_of_ble_eq_true rfl) (jx_e8_6 (by trivial)) ?_
      exact t0_row (jx_okl hRm (by omega) (by omega)) (by omega) (by omega) hN2 ((hf2 _ (by omega)).trans (jx_up_s _ _ _)) (jx_wi (by omega) (by omega) (k M2 _ (JI.ok hW1 hN2 hf2 hlo ⟨hP1, hP2, hq, hP4, ⟨hP5.1, by omega, hP5.2.2⟩, by omega, by omega, by omega⟩)))
  · try dsimp only [Option.toList, List.cons_append, List.nil_append]
    have hN1 := fun e => hN.to (M' := jx_up M1 (a + 23) e) (fun q q1 q2 => (jx_up_n _ _ (by omega)).trans (fr1 q (by omega) (by omega)))
    have hB1 := fun e => (jx_up_n M1 e (show a + 9 ≠ a + 23 by omega)).trans ((fr1 _ (by omega) (by omega)).trans hB)
    refine jx_istore d_L_law_536 (Nat.le_of_ble_eq_true rfl) (jx_e8_5 (by trivial)) ?_
    refine jx_aload_n (i := 2) d_L_law_538 rfl rfl ?_
    refine jx_aload_n (i := 0) d_L_law_539 rfl rfl ?_
    refine jx_iload d_L_law_540 rfl ?_
    refine jx_iconst (v := 1) d_L_law_542 (by decide) ?_
    refine jx_iadd d_L_law_543 ?_
    refine jx_sldj d_L_law_544 (es1 _) (by omega) (by assumption) ?_
    refine jx_i2l d_L_law_545 ?_
    refine jx_bipush (v := 32) d_L_law_546 (by decide) ?_
    refine jx_lshl d_L_law_548 ?_
    refine jx_aload_n (i := 0) d_L_law_549 rfl rfl ?_
    refine jx_iload d_L_law_550 rfl ?_
    refine jx_iconst (v := 2) d_L_law_552 (by decide) ?_
    refine jx_iadd d_L_law_553 ?_
    refine jx_sldj d_L_law_554 (es2 _) (by omega) (by assumption) ?_
    refine jx_i2l d_L_law_555 ?_
    refine jx_ldc2 d_L_law_556 rfl nv_L_82 ?_
    refine jx_land d_L_law_559 ?_
    refine jx_lor d_L_law_560 ?_
    refine jx_aload_n (i := 0) d_L_law_561 rfl rfl ?_
    refine jx_iload d_L_law_562 rfl ?_
    refine jx_iconst (v := 3) d_L_law_564 (by decide) ?_
    refine jx_iadd d_L_law_565 ?_
    refine jx_sldj d_L_law_566 (es3 _) (by omega) (by assumption) ?_
    refine jx_i2l d_L_law_567 ?_
    refine jx_bipush (v := 32) d_L_law_568 (by decide) ?_
    refine jx_lshl d_L_law_570 ?_
    refine jx_aload_n (i := 0) d_L_law_571 rfl rfl ?_
    refine jx_iload d_L_law_572 rfl ?_
    refine jx_iconst (v := 4) d_L_law_574 (by decide) ?_
    refine jx_iadd d_L_law_575 ?_
    refine jx_sldj d_L_law_576 (es4 _) (by omega) (by assumption) ?_
    refine jx_i2l d_L_law_577 ?_
    refine jx_ldc2 d_L_law_578 rfl nv_L_82 ?_
    refine jx_land d_L_law_581 ?_
    refine jx_lor d_L_law_582 ?_
    refine jx_aload_n (i := 0) d_L_law_583 rfl rfl ?_
    refine jx_iload d_L_law_584 rfl ?_
    refine jx_iconst (v := 5) d_L_law_586 (by decide) ?_
    refine jx_iadd d_L_law_587 ?_
    refine jx_sldj d_L_law_588 (es5 _) (by omega) (by assumption) ?_
    refine jx_i2l d_L_law_589 ?_
    refine jx_bipush (v := 32) d_L_law_590 (by decide) ?_
    refine jx_lshl d_L_law_592 ?_
    refine jx_aload_n (i := 0) d_L_law_593 rfl rfl ?_
    refine jx_iload d_L_law_594 rfl ?_
    refine jx_bipush (v := 6) d_L_law_596 (by decide) ?_
    refine jx_iadd d_L_law_598 ?_
    refine jx_sldj d_L_law_599 (es6 _) (by omega) (by assumption) ?_
    refine jx_i2l d_L_law_600 ?_
    refine jx_ldc2 d_L_law_601 rfl nv_L_82 ?_
    refine jx_land d_L_law_604 ?_
    refine jx_lor d_L_law_605 ?_
    refine jx_callV3 d_L_law_606 mv_L_103 (hB1 _) rfl (jx_okl hRm (by omega) (Nat.le_of_ble_eq_true rfl)) (Nat.le_of_ble_eq_true rfl) (by omega) (by omega) (c_M_row (d := 10) (by omega) hset.2.1.1 hset.2.1.2 hset.2.2.1 hset.2.2.2 hset.1.1 hset.1.2 hP1.1 hP1.2.1 hP1.2.2.1 hP1.2.2.2.1 hP1.2.2.2.2 (fun i hi => (hq i hi).1) (fun i hi => (hq i hi).2.1) (by omega) (by omega) (by omega) hP2.1 hP2.2 (hN1 _) (fun h => absurd (sp_t40 e1 e2) h) (fun _ h => absurd e3 h) (fun n2 g1 g2 g3 g4 => absurd (e4.symm.trans g4) (by decide)) (fun n2 r thr g1 g2 g3 g4 => absurd (e4.symm.trans g4) (by decide)) (fun n2 g1 g2 g3 g4 => absurd (e4.symm.trans g4) (by decide)) (fun n2 g1 g2 g3 g4 => absurd (e4.symm.trans g4) (by decide)) (fun n2 g1 g2 g3 g4 => absurd (e4.symm.trans g4) (by decide)) (fun n2 g1 g2 g3 g4 => absurd (e4.symm.trans g4) (by decide)) (fun n2 g1 g2 g3 g4 => absurd (e4.symm.trans g4) (by decide)) (fun n2 g1 g2 g3 g4 M2 hN2 hf2 => ?_))
    try dsimp only [Option.toList, List.cons_append, List.nil_append]
    · try dsimp only [Option.toList, List.cons_append, List.nil_append]
      refine jx_istore d_L_law_609 (Nat.le_of_ble_eq_true rfl) (jx_e8_6 (by trivial)) ?_
      exact t0_row (jx_okl hRm (by omega) (by omega)) (by omega) (by omega) hN2 ((hf2 _ (by omega)).trans (jx_up_s _ _ _)) (jx_wi (by omega) (by omega) (k M2 _ (JI.ok hW1 hN2 hf2 hlo ⟨hP1, hP2, hq, hP4, ⟨hP5.1, by omega, hP5.2.2⟩, by omega, by omega, by omega⟩)))
end OPS2
