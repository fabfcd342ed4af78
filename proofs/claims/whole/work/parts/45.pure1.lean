/-! PART 45: rows in the order of their times -/
theorem sp_ix_min {P : Nat → Bool} : ∀ {n i : Nat}, sp_ix P n = some i → ∀ j, j < i → P j = false
  | 0, i, h => by simp [sp_ix] at h
  | n + 1, i, h => by
    simp only [sp_ix] at h
    cases hq : sp_ix P n with
    | some r =>
      rw [hq] at h
      cases h
      exact sp_ix_min hq
    | none =>
      rw [hq] at h
      by_cases hp : P n = true
      · simp [hp] at h
        subst h
        exact fun j hj => sp_ix_no hq j hj
      · simp [hp] at h
theorem sp_ld_lt {P : Nat → Bool} {n i : Nat} (h : i < sp_ld P n) : P i = true := by
  unfold sp_ld at h
  cases hq : sp_ix (fun j => !P j) n with
  | some r =>
    rw [hq] at h
    have := sp_ix_min hq i h
    simpa using this
  | none =>
    rw [hq] at h
    have := sp_ix_no hq i h
    simpa using this
theorem sp_ld_at {P : Nat → Bool} {n : Nat} (h : sp_ld P n < n) : P (sp_ld P n) = false := by
  unfold sp_ld at h ⊢
  cases hq : sp_ix (fun j => !P j) n with
  | some r =>
    have := (sp_ix_lt hq).2
    simpa using this
  | none =>
    rw [hq] at h
    exact absurd h (Nat.lt_irrefl _)
theorem sp_ld_eq {P : Nat → Bool} {n r : Nat} (hr : r ≤ n) (h1 : ∀ i, i < r → P i = true) (h2 : r < n → P r = false) : sp_ld P n = r := by
  have hle := sp_ld_le P n
  rcases Nat.lt_trichotomy (sp_ld P n) r with h | h | h
  · have := sp_ld_at (P := P) (n := n) (by omega)
    rw [h1 _ h] at this
    cases this
  · exact h
  · have h3 := sp_ld_lt h
    rw [h2 (by omega)] at h3
    cases h3
theorem sp_ld_pos {P : Nat → Bool} {n : Nat} : 0 < sp_ld P n ↔ 0 < n ∧ P 0 = true := by
  constructor
  · intro h
    exact ⟨Nat.lt_of_lt_of_le h (sp_ld_le P n), sp_ld_lt h⟩
  · rintro ⟨h1, h2⟩
    rcases Nat.eq_zero_or_pos (sp_ld P n) with h | h
    · have := sp_ld_at (P := P) (n := n) (by omega)
      rw [h, h2] at this
      cases this
    · exact h
def sp_so (q : sp_key) : Prop := ∀ i i', i ≤ i' → i' < q.1 → q.2.2.1 i ≤ q.2.2.1 i'
def sp_tr (q : sp_key) : Prop := ∀ i, i < q.1 → ∃ n, n ≤ 2 ^ 40 ∧ q.2.2.1 i = lN n
theorem l_trans_lt {x y z : Int64} (h : x ≤ y) (h2 : y < z) : x < z := by
  rw [Int64.le_iff_toInt_le] at h
  rw [Int64.lt_iff_toInt_lt] at h2 ⊢
  omega
theorem l_trans {x y z : Int64} (h : x ≤ y) (h2 : y ≤ z) : x ≤ z := by
  rw [Int64.le_iff_toInt_le] at h h2 ⊢
  omega
theorem l_refl (x : Int64) : x ≤ x := by
  rw [Int64.le_iff_toInt_le]
  omega
theorem sp_so_ge {q : sp_key} (h : sp_so q) {m : Int64} {i : Nat} (h1 : sp_ld (fun j => decide (q.2.2.1 j < m)) q.1 ≤ i) (h2 : i < q.1) : ¬ q.2.2.1 i < m := by
  intro hlt
  have h3 := sp_ld_at (P := fun j => decide (q.2.2.1 j < m)) (n := q.1) (by omega)
  have h4 : ¬ q.2.2.1 (sp_ld (fun j => decide (q.2.2.1 j < m)) q.1) < m := of_decide_eq_false h3
  exact h4 (l_trans_lt (h _ _ h1 h2) hlt)
theorem sp_fb_fo' {kn : Nat} {st p m : Int64} {tm vl : Nat → Int64} : ∀ {n r : Nat}, r ≤ n → (∀ i, i < r → tm i < m) → (∀ i, r ≤ i → i < n → ¬ tm i < m) → sp_fb kn st p tm vl m n = sp_fo kn st p tm vl r
  | 0, r, hr, _, _ => by
    have : r = 0 := by omega
    subst this
    rfl
  | n + 1, r, hr, h1, h2 => by
    rcases Nat.lt_or_ge n r with h | h
    · have hrn : r = n + 1 := by omega
      subst hrn
      rw [sp_fb, if_pos (h1 n (by omega)), sp_fo, sp_fb_fo' (r := n) (Nat.le_refl _) (fun i hi => h1 i (by omega)) (fun i hi hi2 => by omega)]
    · rw [sp_fb, if_neg (h2 n h (by omega))]
      exact sp_fb_fo' h h1 (fun i hi hi2 => h2 i hi (by omega))
theorem sp_fb_fo {q : sp_key} (h : sp_so q) (kn : Nat) (st p m : Int64) : sp_fb kn st p q.2.2.1 q.2.2.2.1 m q.1 = sp_fo kn st p q.2.2.1 q.2.2.2.1 (sp_ld (fun j => decide (q.2.2.1 j < m)) q.1) :=
  sp_fb_fo' (sp_ld_le _ _) (fun i hi => of_decide_eq_true (sp_ld_lt (P := fun j => decide (q.2.2.1 j < m)) hi)) (fun i h1 h2 => sp_so_ge h h1 h2)
theorem sp_fb_all {q : sp_key} (h : sp_tr q) (kn : Nat) (st p : Int64) : sp_fb kn st p q.2.2.1 q.2.2.2.1 1125899906842624 q.1 = sp_fo kn st p q.2.2.1 q.2.2.2.1 q.1 := by
  refine sp_fb_fo' (Nat.le_refl _) (fun i hi => ?_) (fun i h1 h2 => by omega)
  obtain ⟨n, hn, he⟩ := h i hi
  rw [he, Int64.lt_iff_toInt_lt, pk_lT (by omega), show (1125899906842624 : Int64).toInt = 1125899906842624 by decide]
  omega
theorem sp_po_congr {oc : Nat → Int64} {n : Nat} {m key : Int64} {x x' : Nat → Int64} : ∀ {f : Nat}, (∀ i, i < f → x i = x' i) → sp_po oc n m key x f = sp_po oc n m key x' f
  | 0, _ => rfl
  | f + 1, h => by
    rw [sp_po, sp_po, sp_po_congr (fun i hi => h i (by omega)), h f (by omega)]
theorem sp_ou_congr {oc : Nat → Int64} {n nF : Nat} {m key : Int64} {x x' : Nat → Int64} (h : ∀ i, i < nF → x i = x' i) : sp_ou oc n m key x nF = sp_ou oc n m key x' nF := by
  unfold sp_ou
  rw [sp_po_congr h]
theorem va_up_u {α : Type} (f : Nat → α) (i : Nat) (v w : α) : va_up (va_up f i v) i w = va_up f i w := by
  funext j
  by_cases h : j = i
  · subst h
    rw [va_up_s, va_up_s]
  · rw [va_up_n _ _ h, va_up_n _ _ h, va_up_n _ _ h]
/-- a part of an array moved down -/
def sp_mv (ti : Nat → Int64) (c g i : Nat) : Nat → Int64 := fun q => if c ≤ q ∧ q < c + i then ti (q + g) else ti q
theorem sp_mv_0 (ti : Nat → Int64) (c g : Nat) : sp_mv ti c g 0 = ti := by
  funext q
  unfold sp_mv
  rw [if_neg (by omega)]
theorem sp_mv_s (ti : Nat → Int64) {c g i : Nat} (hg : 0 < g) : vp_updL (sp_mv ti c g i) (c + i) (sp_mv ti c g i (c + g + i)) = sp_mv ti c g (i + 1) := by
  funext q
  unfold vp_updL sp_mv
  by_cases h : q = c + i
  · subst h
    rw [if_pos rfl, if_neg (by omega), if_pos (by omega)]
    congr 1
    omega
  · rw [if_neg h]
    by_cases h2 : c ≤ q ∧ q < c + i
    · rw [if_pos h2, if_pos (by omega)]
    · rw [if_neg h2, if_neg (by omega)]
theorem sp_ws_add (c1 c2 : Nat → Int32) (wk : Int32) : ∀ n, sp_ws c2 (sp_ws c1 wk n) n = sp_ws (fun f => c1 f + c2 f) wk n := by
  have h1 : ∀ (c : Nat → Int32) (a b : Int32) (n : Nat), sp_ws c (a + b) n = sp_ws c a n + b := by
    intro c a b n
    induction n with
    | zero => rfl
    | succ n ih =>
      simp only [sp_ws, ih]
      rw [Int32.add_assoc, Int32.add_comm b, ← Int32.add_assoc]
  intro n
  induction n with
  | zero => rfl
  | succ n ih =>
    simp only [sp_ws]
    rw [h1, ih]
    simp only [Int32.add_assoc]
theorem sp_in_off (ti tm : Nat → Int64) {c n pl i : Nat} (t : Int64) (hp : pl ≤ n) (hi : i < n + 1) (h : ∀ i, i < n → ti (c + i) = tm i) : sp_in ti (c + n) (c + pl) t (c + i) = sp_in tm n pl t i := by
  unfold sp_in vp_updL sp_sh
  by_cases h1 : i = pl
  · subst h1
    rw [if_pos rfl, if_pos rfl]
  · rw [if_neg (by omega), if_neg h1]
    by_cases h2 : pl < i
    · rw [if_pos (by omega), if_pos (by omega), show c + i - 1 = c + (i - 1) by omega]
      exact h (i - 1) (by omega)
    · rw [if_neg (by omega), if_neg (by omega)]
      exact h i (by omega)
theorem sp_in_out (ti : Nat → Int64) {c n pl q : Nat} (t : Int64) (hp : pl ≤ n) (h : q < c ∨ c + n < q) : sp_in ti (c + n) (c + pl) t q = ti q := by
  unfold sp_in vp_updL sp_sh
  rw [if_neg (by omega), if_neg (by omega)]
theorem sp_mv_in (ti tm : Nat → Int64) {c g n i : Nat} (hg : g ≤ n) (hi : i < n - g) (h : ∀ i, i < n → ti (c + i) = tm i) : sp_mv ti c g (n - g) (c + i) = sp_rm tm n g i := by
  unfold sp_mv sp_rm
  rw [if_pos (by omega), if_pos (by omega), show c + i + g = c + (i + g) by omega]
  exact h _ (by omega)
theorem sp_mv_out (ti : Nat → Int64) {c g n q : Nat} (h : q < c ∨ c + n ≤ q) : sp_mv ti c g n q = ti q := by
  unfold sp_mv
  rw [if_neg (by omega)]
