/-! PART 37: the reference: its picture; small methods -/
section JXJ
variable {y : jx_md} {hh : jx_h4} {G : jx_G} {R : Room} {Q : Array Value → State → List Frame → State → Prop} {pc : Nat} {l : List (Option Value)} {st : List Value} {M : jx_H} {sz kc ks a : Nat}
theorem jx_ialdj {n j : Nat} {f : Nat → Int32} {x : Int32} (dc : decode y.2.1 pc = .ok (.iaload, 1)) (hM : M a = some (kf_ia n f)) (e : x = nI j) (hj : j < n) (hn : n < 2 ^ 31) (kk : jx_V y hh G R Q (pc + 1) l (.int (f j) :: st) M sz kc ks) : jx_V y hh G R Q pc l (.int x :: .ref a :: st) M sz kc ks := by
  subst e
  refine jx_iald (t0 := 0) dc hM rfl (vp_in_nI hj hn) ?_
  rw [nI_clamp (by omega)]
  exact kk
theorem jx_laldj {n j : Nat} {f : Nat → Int64} {x : Int32} (dc : decode y.2.1 pc = .ok (.laload, 1)) (hM : M a = some (kf_la n f)) (e : x = nI j) (hj : j < n) (hn : n < 2 ^ 31) (kk : jx_V y hh G R Q (pc + 1) l (.long (f j) :: st) M sz kc ks) : jx_V y hh G R Q pc l (.int x :: .ref a :: st) M sz kc ks := by
  subst e
  refine jx_lald (t0 := 1) dc hM rfl (vp_in_nI hj hn) ?_
  rw [nI_clamp (by omega)]
  exact kk
theorem jx_iastj {n j : Nat} {f : Nat → Int32} {x v : Int32} (dc : decode y.2.1 pc = .ok (.iastore, 1)) (hM : M a = some (kf_ia n f)) (e : x = nI j) (hj : j < n) (hn : n < 2 ^ 31) (kk : jx_V y hh G R Q (pc + 1) l st (jx_up M a (kf_ia n (upd f j v))) sz kc ks) : jx_V y hh G R Q pc l (.int v :: .int x :: .ref a :: st) M sz kc ks := by
  subst e
  refine jx_iast (t0 := 0) dc hM rfl (vp_in_nI hj hn) ?_
  rw [nI_clamp (by omega)]
  exact kk
theorem jx_lastj {n j : Nat} {f : Nat → Int64} {x : Int32} {v : Int64} (dc : decode y.2.1 pc = .ok (.lastore, 1)) (hM : M a = some (kf_la n f)) (e : x = nI j) (hj : j < n) (hn : n < 2 ^ 31) (kk : jx_V y hh G R Q (pc + 1) l st (jx_up M a (kf_la n (vp_updL f j v))) sz kc ks) : jx_V y hh G R Q pc l (.long v :: .int x :: .ref a :: st) M sz kc ks := by
  subst e
  refine jx_last (t0 := 1) dc hM rfl (vp_in_nI hj hn) ?_
  rw [nI_clamp (by omega)]
  exact kk
end JXJ
theorem e4 (k i : Nat) : (4 : Int32) * nI k + nI i = nI (4 * k + i) := by rw [show (4 : Int32) = nI 4 from rfl, pk_mul, nI_add]
theorem e8 (k i : Nat) : (8 : Int32) * nI k + nI i = nI (8 * k + i) := by rw [show (8 : Int32) = nI 8 from rfl, pk_mul, nI_add]
theorem e62 (k i : Nat) : (62 : Int32) * nI k + nI i = nI (62 * k + i) := by rw [show (62 : Int32) = nI 62 from rfl, pk_mul, nI_add]
/-- the reference's object -/
abbrev kf_M (la wi en pe cd : Int32) (nF b : Nat) (lr fr : Int32) (nK nS : Nat) (im : Int32) (mk lt : Int64) (nA nO : Nat) (tk lc db fc le : Int32) : jx_E := .inl (5, [.int la, .int wi, .int en, .int pe, .int cd, .int (nI nF), .ref (b + 1), .ref (b + 2), .ref (b + 3), .ref (b + 4), .ref (b + 5), .int lr, .int fr, .int (nI nK), .ref (b + 6), .ref (b + 7), .ref (b + 8), .ref (b + 9), .ref (b + 10), .int (nI nS), .ref (b + 11), .int im, .long mk, .long lt, .int (nI nA), .ref (b + 12), .int (nI nO), .ref (b + 13), .int tk, .int lc, .int db, .int fc, .int le])
def mO (M : jx_H) (b : Nat) (ki : Nat → Int32) (st nu : Nat → Int64) (fa : Nat → Int32) (fl nn : Nat → Int64) (si wo : Nat → Int32) (ti va so ac oc : Nat → Int64) : Prop :=
  M (b + 1) = some (kf_ia 6 ki) ∧ M (b + 2) = some (kf_la 6 st) ∧ M (b + 3) = some (kf_la 6 nu) ∧ M (b + 4) = some (kf_ia 6 fa) ∧ M (b + 5) = some (kf_la 24 fl) ∧ M (b + 6) = some (kf_la 30 nn) ∧ M (b + 7) = some (kf_ia 30 si) ∧ M (b + 8) = some (kf_ia 30 wo) ∧ M (b + 9) = some (kf_la 1860 ti) ∧ M (b + 10) = some (kf_la 1860 va) ∧ M (b + 11) = some (kf_la 4200 so) ∧ M (b + 12) = some (kf_la 400 ac) ∧ M (b + 13) = some (kf_la 2400 oc)
/-- the reference's arrays, and the state of which they are -/
def mF (nF : Nat) (fd : sp_fd) (fw : Nat → Nat → Int64) (ki : Nat → Int32) (st nu : Nat → Int64) (fa : Nat → Int32) (fl : Nat → Int64) : Prop :=
  nF ≤ 6 ∧ (∀ i, i < nF → (fd i).1 ≤ 8 ∧ (fd i).2.2.2.1 ≤ 4 ∧ ki i = nI (fd i).1 ∧ st i = (fd i).2.1 ∧ nu i = (fd i).2.2.1 ∧ ∀ k, k < (fd i).2.2.2.1 → fl (4 * i + k) = fw i k) ∧ ∀ i, i < 6 → fa i = nI (if i < nF then (fd i).2.2.2.1 else 0)
def mK (nK : Nat) (nm : Nat → Int64) (kd : Nat → sp_key) (nn : Nat → Int64) (si wo : Nat → Int32) (ti va : Nat → Int64) : Prop :=
  nK ≤ 30 ∧ (∀ j, j < nK → (kd j).1 ≤ 60 ∧ nn j = nm j ∧ si j = nI (kd j).1 ∧ wo j = (kd j).2.1 ∧ ∀ i, i < (kd j).1 → ti (62 * j + i) = (kd j).2.2.1 i ∧ va (62 * j + i) = (kd j).2.2.2.1 i) ∧ ∀ j, nK ≤ j → j < 30 → si j = 0 ∧ wo j = 0
def mW (M : jx_H) (b : Nat) (la wi en pe cd : Int32) (lr fr : Int32) (gt lt : Int64) (tk lc db fc le : Int32) (nF : Nat) (fd : sp_fd) (fw : Nat → Nat → Int64) (nK : Nat) (nm : Nat → Int64) (kd : Nat → sp_key) (nS : Nat) (sn : Nat → Int64) (nA : Nat) (ac : Nat → Int64) (nO : Nat) (oc : Nat → Int64) : Prop :=
  ∃ (mk : Int64) (ki : Nat → Int32) (st nu : Nat → Int64) (fa : Nat → Int32) (fl nn : Nat → Int64) (si wo : Nat → Int32) (ti va so : Nat → Int64), (sp_wm gt = true → mk = gt - la.toInt64) ∧ M b = some (kf_M la wi en pe cd nF b lr fr nK nS (kf_b (sp_wm gt)) mk lt nA nO tk lc db fc le) ∧ mO M b ki st nu fa fl nn si wo ti va so ac oc ∧ mF nF fd fw ki st nu fa fl ∧ mK nK nm kd nn si wo ti va ∧ nS ≤ 512 ∧ ∀ i, i < nS → so i = sn i
theorem sp_ix_congr {P P' : Nat → Bool} : ∀ {n : Nat}, (∀ i, i < n → P i = P' i) → sp_ix P n = sp_ix P' n
  | 0, _ => rfl
  | n + 1, h => by
    simp only [sp_ix]
    rw [sp_ix_congr (n := n) (fun i hi => h i (by omega)), h n (by omega)]
theorem sp_ex_congr {P P' : Nat → Bool} : ∀ {n : Nat}, (∀ i, i < n → P i = P' i) → sp_ex P n = sp_ex P' n
  | 0, _ => rfl
  | n + 1, h => by
    simp only [sp_ex]
    rw [sp_ex_congr (n := n) (fun i hi => h i (by omega)), h n (by omega)]
/-- folded up to a bound -/
def sp_fb (kn : Nat) (st p : Int64) (tm vl : Nat → Int64) (bd : Int64) : Nat → Int64
  | 0 => st
  | i + 1 => if tm i < bd then sp_sa kn p tm vl i (sp_fb kn st p tm vl bd i) else sp_fb kn st p tm vl bd i
theorem kf_b_or (x y : Bool) : kf_b x ||| kf_b y = kf_b (x || y) := by cases x <;> cases y <;> decide
section CM1
variable {G : jx_G} {d b nF nK sz nS nA nO : Nat} {la wi en pe cd lr fr tk lc db fc le x : Int32} {gt lt t v key s0 t0 bf bd : Int64} {nm : Nat → Int64} {kd : Nat → sp_key} {fd : sp_fd} {fw : Nat → Nat → Int64} {sn ac oc : Nat → Int64} {M : jx_H} {Z : Option Value → jx_H → Nat → Prop}
theorem c_M_held {fs : List Value} (hB : M b = some (.inl (5, fs))) (k : Z (some (.int (sp_cl x))) M sz) : jx_Cr md_M_held G d [.ref b, .int x] M sz 0 0 Z := by
  refine jx_ent rfl (Nat.le_of_ble_eq_true rfl) (l := [some (.ref b), some (.int x)]) (by simp [jx_le, jx_eas, Value.category]) (fun hlt => ?_)
  refine jx_iload_n (i := 1) d_M_held_0 rfl rfl ?_
  refine jx_if_ge (tgt := 8) d_M_held_1 (by decide) (fun c1 => ?_) (fun c1 => ?_)
  · have h0 : ¬ x < 0 := fun h => by rw [Int32.lt_iff_toInt_lt] at h; rw [Int32.le_iff_toInt_le] at c1; omega
    refine jx_iload_n (i := 1) d_M_held_8 rfl rfl ?_
    refine jx_ldc d_M_held_9 rfl nv_M_70 ?_
    refine jx_icmp_le (tgt := 19) d_M_held_11 (by decide) (fun c11 => ?_) (fun c11 => ?_)
    · have h1 : ¬ 100000 < x := fun h => by rw [Int32.lt_iff_toInt_lt] at h; rw [Int32.le_iff_toInt_le] at c11; omega
      refine jx_iload_n (i := 1) d_M_held_19 rfl rfl ?_
      exact jx_iret d_M_held_20 rfl (by omega) (by omega) (by simpa [sp_cl, h0, h1] using k)
    · have h1 : 100000 < x := by rw [Int32.lt_iff_toInt_lt]; rw [Int32.le_iff_toInt_le] at c11; omega
      refine jx_ldc d_M_held_14 rfl nv_M_70 ?_
      refine jx_goto (tgt := 20) d_M_held_16 (by decide) ?_
      exact jx_iret d_M_held_20 rfl (by omega) (by omega) (by simpa [sp_cl, h0, h1] using k)
  · have h0 : x < 0 := by rw [Int32.lt_iff_toInt_lt]; rw [Int32.le_iff_toInt_le] at c1; omega
    refine jx_iconst (v := 0) d_M_held_4 (by decide) ?_
    refine jx_goto (tgt := 20) d_M_held_5 (by decide) ?_
    exact jx_iret d_M_held_20 rfl (by omega) (by omega) (by simpa [sp_cl, h0] using k)
theorem c_M_thrown (hN : mW M b la wi en pe cd lr fr gt lt tk lc db fc le nF fd fw nK nm kd nS sn nA ac nO oc) (k : Z (some (.int cd)) M sz) : jx_Cr md_M_thrown G d [.ref b] M sz 0 0 Z := by
  refine jx_ent rfl (Nat.le_of_ble_eq_true rfl) (l := [some (.ref b)]) (by simp [jx_le, jx_eas, Value.category]) (fun hlt => ?_)
  obtain ⟨mk, ki, st, nu, fa, fl, nn, si, wo, ti, va, so, hmk, hB, hO, hF, hK, hS5, hS⟩ := hN
  refine jx_aload_n (i := 0) d_M_thrown_0 rfl rfl ?_
  refine jx_getf d_M_thrown_1 gf_M_67 hB rfl ?_
  exact jx_iret d_M_thrown_4 rfl (by omega) (by omega) k
theorem c_M_isFold (hN : mW M b la wi en pe cd lr fr gt lt tk lc db fc le nF fd fw nK nm kd nS sn nA ac nO oc) (k : Z (some (.int (kf_b (decide (0 ≤ x.toInt ∧ x.toInt < nF))))) M sz) : jx_Cr md_M_isFold G d [.ref b, .int x] M sz 0 0 Z := by
  refine jx_ent rfl (Nat.le_of_ble_eq_true rfl) (l := [some (.ref b), some (.int x)]) (by simp [jx_le, jx_eas, Value.category]) (fun hlt => ?_)
  obtain ⟨mk, ki, st, nu, fa, fl, nn, si, wo, ti, va, so, hmk, hB, hO, hF, hK, hS5, hS⟩ := hN
  have hnF := hF.1
  have e0 : (0 : Int32).toInt = 0 := by decide
  have e1 := nI_toInt (n := nF) (by omega)
  refine jx_iload_n (i := 1) d_M_isFold_0 rfl rfl ?_
  refine jx_if_lt (tgt := 16) d_M_isFold_1 (by decide) (fun c1 => ?_) (fun c1 => ?_)
  · refine jx_iconst (v := 0) d_M_isFold_16 (by decide) ?_
    exact jx_zret d_M_isFold_17 rfl (by first | exact Or.inl rfl | exact Or.inr rfl) (by omega) (by omega) (by
      rw [Int32.lt_iff_toInt_lt, e0] at c1
      rw [show decide (0 ≤ x.toInt ∧ x.toInt < nF) = false from decide_eq_false (by omega)] at k
      exact k)
  · refine jx_iload_n (i := 1) d_M_isFold_4 rfl rfl ?_
    refine jx_aload_n (i := 0) d_M_isFold_5 rfl rfl ?_
    refine jx_getf d_M_isFold_6 gf_M_71 hB rfl ?_
    refine jx_icmp_ge (tgt := 16) d_M_isFold_9 (by decide) (fun c9 => ?_) (fun c9 => ?_)
    · refine jx_iconst (v := 0) d_M_isFold_16 (by decide) ?_
      exact jx_zret d_M_isFold_17 rfl (by first | exact Or.inl rfl | exact Or.inr rfl) (by omega) (by omega) (by
        rw [Int32.le_iff_toInt_le, e1] at c9
        rw [show decide (0 ≤ x.toInt ∧ x.toInt < nF) = false from decide_eq_false (by omega)] at k
        exact k)
    · refine jx_iconst (v := 1) d_M_isFold_12 (by decide) ?_
      refine jx_goto (tgt := 17) d_M_isFold_13 (by decide) ?_
      exact jx_zret d_M_isFold_17 rfl (by first | exact Or.inl rfl | exact Or.inr rfl) (by omega) (by omega) (by
        rw [Int32.lt_iff_toInt_lt, e0] at c1
        rw [Int32.le_iff_toInt_le, e1] at c9
        rw [show decide (0 ≤ x.toInt ∧ x.toInt < nF) = true from decide_eq_true (by omega)] at k
        exact k)
end CM1
