/-! PART 04: walks over a pure picture of the heap. A picture M gives for an address what lies there: an object (class number, fields) or an array (array kind, contents).
Kinds of arrays stand in jx_ats. Addresses below B were there before the law began: none of them is written, none is in a picture. -/
abbrev jx_E : Type := (Nat × List Value) ⊕ (Nat × vp_A)
abbrev jx_H : Type := Nat → Option jx_E
/-- what stays through the whole run: the classes' numbers, B, the script's address, length, contents, the address of ArrayList's empty array -/
abbrev jx_G : Type := va_G × Nat × Nat × Nat × (Nat → Int32) × Nat × Nat
abbrev jx_D (G : jx_G) : va_G := G.1
abbrev jx_B (G : jx_G) : Nat := G.2.1
abbrev jx_sa (G : jx_G) : Nat := G.2.2.1
abbrev jx_sl (G : jx_G) : Nat := G.2.2.2.1
abbrev jx_sx (G : jx_G) : Nat → Int32 := G.2.2.2.2.1
abbrev jx_ea (G : jx_G) : Nat := G.2.2.2.2.2.1
abbrev jx_mi (G : jx_G) : Nat := G.2.2.2.2.2.2
def jx_ats : List (Nat × FieldType) := [(50, .int), (51, .long), (52, .object "java/lang/Object")]
def jx_ty (G : jx_G) : List (ClassId × FieldType) := jx_ats.map (fun q => ((jx_D G).1 q.1, q.2))
def jx_we (G : jx_G) (e : jx_E) : va_E := match e with
  | .inl o => .inr o
  | .inr o => .inl ((jx_D G).1 o.1, o.2)
def jx_at (G : jx_G) (a : Nat) (e : jx_E) (H : Heap) : Prop := va_at (jx_D G) vwCl (a, jx_we G e) H
def jx_R (G : jx_G) (M : jx_H) (sz : Nat) (H : Heap) : Prop := H.size = sz ∧ jx_B G ≤ sz ∧ ∀ (a : Nat) (e : jx_E), M a = some e → jx_B G ≤ a ∧ jx_at G a e H
def jx_up (M : jx_H) (a : Nat) (e : jx_E) : jx_H := fun q => if q = a then some e else M q
theorem jx_up_s (M : jx_H) (a : Nat) (e : jx_E) : jx_up M a e a = some e := by simp [jx_up]
theorem jx_up_n (M : jx_H) {a q : Nat} (e : jx_E) (h : q ≠ a) : jx_up M a e q = M q := by simp [jx_up, h]
theorem jx_up_u (M : jx_H) (a : Nat) (e e' : jx_E) : jx_up (jx_up M a e) a e' = jx_up M a e' := by
  funext q
  by_cases h : q = a <;> simp [jx_up, h]
theorem jx_up_c (M : jx_H) {a b : Nat} (e e' : jx_E) (h : a ≠ b) : jx_up (jx_up M a e) b e' = jx_up (jx_up M b e') a e := by
  funext q
  by_cases h1 : q = a
  · subst h1
    simp [jx_up, h]
  · by_cases h2 : q = b <;> simp [jx_up, h1, h2, Ne.symm h]
theorem jx_up_id (M : jx_H) {a : Nat} {e : jx_E} (h : M a = some e) : jx_up M a e = M := by
  funext q
  by_cases h1 : q = a
  · subst h1
    simp [jx_up, h]
  · simp [jx_up, h1]
theorem jx_R.lt {G : jx_G} {M : jx_H} {sz : Nat} {H : Heap} (h : jx_R G M sz H) {a : Nat} {e : jx_E} (ha : M a = some e) : a < sz := by
  have := va_at.lt (h.2.2 a e ha).2
  rw [h.1] at this
  exact this
theorem jx_at.kept {G : jx_G} {a : Nat} {e : jx_E} {H H1 : Heap} (h : jx_at G a e H) (hq : H1[a]? = H[a]?) : jx_at G a e H1 := va_at.kept h hq
theorem jx_R.set {G : jx_G} {M : jx_H} {sz : Nat} {H H1 : Heap} {a : Nat} {e : jx_E} (h : jx_R G M sz H) (hB : jx_B G ≤ a) (hz : H1.size = H.size) (ho : ∀ q : Nat, q ≠ a → H1[q]? = H[q]?) (he : jx_at G a e H1) : jx_R G (jx_up M a e) sz H1 := by
  refine ⟨hz.trans h.1, h.2.1, fun b x hb => ?_⟩
  by_cases hba : b = a
  · subst hba
    rw [jx_up_s] at hb
    cases hb
    exact ⟨hB, he⟩
  · rw [jx_up_n _ _ hba] at hb
    exact ⟨(h.2.2 b x hb).1, (h.2.2 b x hb).2.kept (ho b hba)⟩
theorem jx_R.push {G : jx_G} {M : jx_H} {sz : Nat} {H H1 : Heap} {e : jx_E} (h : jx_R G M sz H) (hz : H1.size = sz + 1) (ho : ∀ q : Nat, q < sz → H1[q]? = H[q]?) (he : jx_at G sz e H1) : jx_R G (jx_up M sz e) (sz + 1) H1 := by
  refine ⟨hz, Nat.le_succ_of_le h.2.1, fun b x hb => ?_⟩
  by_cases hba : b = sz
  · subst hba
    rw [jx_up_s] at hb
    cases hb
    exact ⟨h.2.1, he⟩
  · rw [jx_up_n _ _ hba] at hb
    exact ⟨(h.2.2 b x hb).1, (h.2.2 b x hb).2.kept (ho b (h.lt hb))⟩
/-- the tables' words that calls don't carry by themselves -/
def jx_mv : Cond → Bool
  | .castable .. => true
  | .methodLinkNest .. => true
  | .arrayOver (.object _) => true
  | .declares _ => true
  | _ => false
def jx_nb : List Cond := lw_tbl.filter jx_mv
theorem jx_nbm {w : Cond} (i : Nat) (h : tables_1[i]? = some w) (hg : jx_mv w = true) : w ∈ jx_nb := List.mem_filter.mpr ⟨List.mem_append_right _ (List.mem_of_getElem? h), hg⟩
def jx_str : Cond → Option (String × Nat × String)
  | .stringRef own k tx => some (own, k, tx)
  | _ => none
def jx_strs : List (String × Nat × String) := tables_1.filterMap jx_str
/-- what an exception that passes a row of a table is not -/
def jx_ncs : List (String × String) := [("java/lang/IllegalStateException", "java/lang/IllegalArgumentException"), ("java/lang/IllegalStateException", "java/lang/IndexOutOfBoundsException")]
def jx_K (G : jx_G) (U : State) : Prop := va_K (jx_D G) vwCl (jx_ty G) U ∧ (∀ w ∈ jx_nb, va_Nw w U) ∧ va_X (jx_sa G) (jx_sl G) (jx_sx G) U U.heap ∧ jx_sa G < jx_B G ∧
  va_Z "java/util/ArrayList" "DEFAULTCAPACITY_EMPTY_ELEMENTDATA" "[Ljava/lang/Object;" (.ref (jx_ea G)) (fun q => jx_B G ≤ q) U U.heap ∧ va_T (.object "java/lang/Object") (jx_ea G) 0 (fun _ => .null) (fun q => jx_B G ≤ q) U U.heap ∧
  vx_Zq Bundle.tN "UNASSIGNED_STACK" Bundle.steD (fun q => jx_B G ≤ q) U U.heap ∧ vx_Zq Bundle.tN "SUPPRESSED_SENTINEL" Bundle.listD (fun q => jx_B G ≤ q) U U.heap ∧ (∀ q ∈ jx_strs, ∃ sa, vk_R q.1 q.2.1 q.2.2 sa U) ∧ jx_B G ≤ U.heap.size ∧ va_Mi "[Ljava/lang/Object;" (jx_mi G) U ∧ ∀ q ∈ jx_ncs, va_Nc q.1 q.2 U
theorem jx_nb_mv {w : Cond} {s U : State} (hm : jx_mv w = true) (hW : s.WarmedH U.vm) (h : va_Nw w s) : va_Nw w U := by
  unfold jx_mv at hm
  split at hm
  · exact va_Nw.warmC hW h
  · exact va_Nw.warmM hW h
  · exact va_AO.moved hW.alike h
  · exact va_Nw.warmD hW h
  · cases hm
theorem jx_K.to {G : jx_G} {s U : State} (h : jx_K G s) (hW : s.WarmedH U.vm) (hq : ∀ q : Nat, q < jx_B G → U.heap[q]? = s.heap[q]?) (hz : s.heap.size ≤ U.heap.size) : jx_K G U := by
  obtain ⟨h1, h2, h3, h4, h5, h6, h7, h8, h9, h10, h11⟩ := h
  have hk : ∀ a : Nat, a < s.heap.size → ¬ jx_B G ≤ a → U.heap[a]? = s.heap[a]? := fun a _ hn => hq a (Nat.not_le.mp hn)
  exact ⟨va_K.moved hW.alike h1, fun w hw => jx_nb_mv (List.mem_filter.mp hw).2 hW (h2 w hw), (va_X.moved hW.alike h3).kept (hq _ h4), h4, (va_Z.moved hW.alike h5).kept hk, (va_T.moved hW.alike h6).kept hk, (vx_Zq.moved hW.alike h7).kept hk, (vx_Zq.moved hW.alike h8).kept hk, fun q hq' => by obtain ⟨sa, hs⟩ := h9 q hq'; exact ⟨sa, vk_R.warm hW hs⟩, Nat.le_trans h10 hz, h11.1.moved hW.alike, fun q hq9 => va_Nc.moved hW.alike (h11.2 q hq9)⟩
theorem jx_K.call {G : jx_G} {U : State} {g : JFrame} {mk : MethodId} {a : Array Value} (h : jx_K G U) : jx_K G (U.calling g mk a) := jx_K.to h (State.WarmedH.refl U) (fun _ _ => rfl) (Nat.le_refl _)
def jx_S (G : jx_G) (H0 H : Heap) (locs : List Loc) : Prop := H0.size ≤ H.size ∧ (∀ q : Nat, q < jx_B G → H[q]? = H0[q]?) ∧ ∀ l ∈ locs, jx_B G ≤ l.base
theorem jx_S.va {G : jx_G} {H0 H : Heap} {locs : List Loc} (h : jx_S G H0 H locs) : va_S (fun q => jx_B G ≤ q) H0 H locs := ⟨h.1, fun q _ hn => h.2.1 q (Nat.not_le.mp hn), h.2.2⟩
theorem jx_S.put {G : jx_G} {H0 H H1 : Heap} {locs : List Loc} {a k : Nat} (h : jx_S G H0 H locs) (z : H1.size = H.size) (oq : ∀ q : Nat, q ≠ a → H1[q]? = H[q]?) (ha : jx_B G ≤ a) : jx_S G H0 H1 (locs ++ [⟨a, k⟩]) := by
  refine ⟨by rw [z]; exact h.1, fun q h1 => ?_, fun q hq => ?_⟩
  · rw [oq q (by omega)]
    exact h.2.1 q h1
  · rcases List.mem_append.mp hq with h1 | h1
    · exact h.2.2 q h1
    · rw [List.mem_singleton.mp h1]
      exact ha
theorem jx_S.push {G : jx_G} {H0 H H1 : Heap} {locs : List Loc} {sz : Nat} (h : jx_S G H0 H locs) (hs : H.size = sz) (hB : jx_B G ≤ sz) (z : H1.size = sz + 1) (oq : ∀ q : Nat, q < sz → H1[q]? = H[q]?) : jx_S G H0 H1 locs := by
  refine ⟨by rw [z]; have := h.1; omega, fun q h1 => ?_, h.2.2⟩
  rw [oq q (by omega)]
  exact h.2.1 q h1
theorem jx_S.call {G : jx_G} {H0 H H1 : Heap} {locs L : List Loc} (h : jx_S G H0 H locs) (z : H.size ≤ H1.size) (oq : ∀ q : Nat, q < jx_B G → H1[q]? = H[q]?) (hL : ∀ l ∈ L, jx_B G ≤ l.base) : jx_S G H0 H1 (locs ++ L) := by
  refine ⟨Nat.le_trans h.1 z, fun q h1 => (oq q h1).trans (h.2.1 q h1), fun q hq => ?_⟩
  rcases List.mem_append.mp hq with h1 | h1
  · exact h.2.2 q h1
  · exact hL q h1
/-- the locals, by place: 'none' where nothing is known -/
def jx_L (ls : Array Slot) (n : Nat) (l : List (Option Value)) : Prop := ls.size = n ∧ lv_wf ls ∧ ∀ (i : Nat) (v : Value), l[i]? = some (some v) → ls[i]? = some (.val v)
def jx_pr : Nat → List (Option Value) → List (Nat × Value)
  | _, [] => []
  | i, none :: r => jx_pr (i + 1) r
  | i, some v :: r => (i, v) :: jx_pr (i + 1) r
theorem jx_pr_mem : ∀ (l : List (Option Value)) (k i : Nat) (v : Value), (i, v) ∈ jx_pr k l ↔ k ≤ i ∧ l[i - k]? = some (some v) := by
  intro l
  induction l with
  | nil => intro k i v; simp [jx_pr]
  | cons x r ih =>
    intro k i v
    have key : ∀ {P : Prop}, (k + 1 ≤ i ∧ r[i - (k + 1)]? = some (some v)) ↔ (k < i ∧ (x :: r)[i - k]? = some (some v)) := by
      intro _
      constructor
      · rintro ⟨h1, h2⟩
        refine ⟨h1, ?_⟩
        rw [show i - k = (i - (k + 1)) + 1 by omega]
        simpa using h2
      · rintro ⟨h1, h2⟩
        refine ⟨h1, ?_⟩
        rw [show i - k = (i - (k + 1)) + 1 by omega] at h2
        simpa using h2
    cases x with
    | none =>
      rw [show jx_pr k (none :: r) = jx_pr (k + 1) r from rfl, ih, key (P := True)]
      constructor
      · rintro ⟨h1, h2⟩
        exact ⟨by omega, h2⟩
      · rintro ⟨h1, h2⟩
        rcases Nat.lt_or_ge k i with h | h
        · exact ⟨h, h2⟩
        · have : i - k = 0 := by omega
          rw [this] at h2
          simp at h2
    | some w =>
      rw [show jx_pr k (some w :: r) = (k, w) :: jx_pr (k + 1) r from rfl, List.mem_cons, ih, key (P := True)]
      constructor
      · rintro (h | ⟨h1, h2⟩)
        · cases h
          simp
        · exact ⟨by omega, h2⟩
      · rintro ⟨h1, h2⟩
        rcases Nat.lt_or_ge k i with h | h
        · exact Or.inr ⟨h, h2⟩
        · have e0 : i = k := by omega
          subst e0
          simp at h2
          exact Or.inl (by rw [h2])
theorem jx_L.has {ls : Array Slot} {n : Nat} {l : List (Option Value)} (h : jx_L ls n l) : lv_has ls n (jx_pr 0 l) := by
  refine ⟨h.1, h.2.1, fun q hq => ?_⟩
  obtain ⟨i, v⟩ := q
  have := (jx_pr_mem l 0 i v).mp hq
  exact h.2.2 i v (by simpa using this.2)
/-- a list of locals of which each is known of another one -/
theorem jx_L.to {ls : Array Slot} {n : Nat} {l l' : List (Option Value)} (h : jx_L ls n l) (hl : ∀ (i : Nat) (v : Value), l'[i]? = some (some v) → l[i]? = some (some v)) : jx_L ls n l' := ⟨h.1, h.2.1, fun i v hv => h.2.2 i v (hl i v hv)⟩
def jx_le : List (Option Value) → List (Option Value) → Prop
  | _, [] => True
  | x :: r, y :: r' => (y = none ∨ x = y) ∧ jx_le r r'
  | [], y :: r' => y = none ∧ jx_le [] r'
theorem jx_le_at : ∀ (l' l : List (Option Value)), jx_le l l' → ∀ (i : Nat) (v : Value), l'[i]? = some (some v) → l[i]? = some (some v) := by
  intro l'
  induction l' with
  | nil => intro l _ i v h; simp at h
  | cons y r' ih =>
    intro l hle i v h
    cases l with
    | nil =>
      obtain ⟨h1, h2⟩ := hle
      cases i with
      | zero => simp [h1] at h
      | succ j =>
        have := ih [] h2 j v (by simpa using h)
        simp at this
    | cons x r =>
      obtain ⟨h1, h2⟩ := hle
      cases i with
      | zero =>
        rcases h1 with h1 | h1
        · simp [h1] at h
        · simpa [h1] using h
      | succ j => simpa using ih r h2 j v (by simpa using h)
/-- the arguments laid into locals -/
def jx_eas : List Value → List (Option Value)
  | [] => []
  | v :: vs => if v.category = 2 then some v :: none :: jx_eas vs else some v :: jx_eas vs
theorem jx_eas_mem : ∀ (vs : List Value) (k i : Nat) (v : Value), (jx_eas vs)[i]? = some (some v) → (k + i, v) ∈ lv_args k vs := by
  intro vs
  induction vs with
  | nil => intro k i v h; simp [jx_eas] at h
  | cons x r ih =>
    intro k i v h
    rw [show lv_args k (x :: r) = (k, x) :: lv_args (if x.category = 2 then k + 2 else k + 1) r from rfl]
    rw [List.mem_cons]
    by_cases hc : x.category = 2
    · simp only [jx_eas, if_pos hc] at h ⊢
      match i, h with
      | 0, h => simp at h; exact Or.inl (by rw [h]; rfl)
      | 1, h => simp at h
      | j + 2, h =>
        have := ih (k + 2) j v (by simpa using h)
        exact Or.inr (by rw [show k + (j + 2) = k + 2 + j by omega]; exact this)
    · simp only [jx_eas, if_neg hc] at h ⊢
      match i, h with
      | 0, h => simp at h; exact Or.inl (by rw [h]; rfl)
      | j + 1, h =>
        have := ih (k + 1) j v (by simpa using h)
        exact Or.inr (by rw [show k + (j + 1) = k + 1 + j by omega]; exact this)
theorem jx_L.entry {vs : List Value} {n : Nat} {l : List (Option Value)} (h : (lg_sl vs).length ≤ n) (hl : jx_le (jx_eas vs) l) : jx_L ((lg_sl vs ++ List.replicate (n - (lg_sl vs).length) Slot.unset).toArray) n l := by
  obtain ⟨h1, h2, h3⟩ := lv_entry vs h
  refine ⟨h1, h2, fun i v hv => ?_⟩
  have := jx_eas_mem vs 0 i v (jx_le_at _ _ hl i v hv)
  rw [Nat.zero_add] at this
  exact h3 _ this
/-- l' is l with v stored at place i -/
def jx_st1 (l : List (Option Value)) (i : Nat) (v : Value) (l' : List (Option Value)) : Prop := ∀ (j : Nat) (u : Value), l'[j]? = some (some u) → (j = i ∧ u = v) ∨ (j ≠ i ∧ l[j]? = some (some u) ∧ ¬ (j + 1 = i ∧ u.category = 2))
def jx_st2 (l : List (Option Value)) (i : Nat) (v : Value) (l' : List (Option Value)) : Prop := ∀ (j : Nat) (u : Value), l'[j]? = some (some u) → (j = i ∧ u = v) ∨ (j ≠ i ∧ j ≠ i + 1 ∧ l[j]? = some (some u) ∧ ¬ (j + 1 = i ∧ u.category = 2))
/-- no long, no double -/
def jx_nl (a : Option Value) : Prop := match a with
  | some v => v.category = 1
  | none => True
theorem jx_pre {pre : List (Option Value)} {j i : Nat} {u : Value} (hp : jx_nl (pre.getLast?.getD none)) (hi : i = pre.length) (hj : j + 1 = i) (hu : pre[j]? = some (some u)) : u.category = 1 := by
  have : pre.getLast? = some (some u) := by
    rw [List.getLast?_eq_getElem?, ← hi, ← hj]
    simpa using hu
  rw [this] at hp
  exact hp
theorem jx_st1_app (pre post : List (Option Value)) {x : Option Value} {v : Value} (hp : jx_nl (pre.getLast?.getD none)) : jx_st1 (pre ++ x :: post) pre.length v (pre ++ some v :: post) := by
  intro j u hj
  rcases Nat.lt_trichotomy j pre.length with h | h | h
  · rw [List.getElem?_append_left h] at hj
    exact Or.inr ⟨by omega, by rw [List.getElem?_append_left h]; exact hj, fun q => by have := jx_pre hp rfl q.1 hj; omega⟩
  · subst h
    rw [List.getElem?_append_right (Nat.le_refl _)] at hj
    simp at hj
    exact Or.inl ⟨rfl, hj.symm⟩
  · rw [List.getElem?_append_right (by omega)] at hj ⊢
    obtain ⟨k, hk⟩ : ∃ k, j - pre.length = k + 1 := ⟨j - pre.length - 1, by omega⟩
    rw [hk] at hj ⊢
    exact Or.inr ⟨by omega, by simpa using hj, fun q => by omega⟩
theorem jx_st2_app (pre post : List (Option Value)) {x x' : Option Value} {v : Value} (hp : jx_nl (pre.getLast?.getD none)) : jx_st2 (pre ++ x :: x' :: post) pre.length v (pre ++ some v :: none :: post) := by
  intro j u hj
  rcases Nat.lt_trichotomy j pre.length with h | h | h
  · rw [List.getElem?_append_left h] at hj
    exact Or.inr ⟨by omega, by omega, by rw [List.getElem?_append_left h]; exact hj, fun q => by have := jx_pre hp rfl q.1 hj; omega⟩
  · subst h
    rw [List.getElem?_append_right (Nat.le_refl _)] at hj
    simp at hj
    exact Or.inl ⟨rfl, hj.symm⟩
  · rw [List.getElem?_append_right (by omega)] at hj ⊢
    obtain ⟨k, hk⟩ : ∃ k, j - pre.length = k + 1 := ⟨j - pre.length - 1, by omega⟩
    rw [hk] at hj ⊢
    cases k with
    | zero => simp at hj
    | succ k => exact Or.inr ⟨by omega, by omega, by simpa using hj, fun q => by omega⟩
theorem jx_st1_ok {ls : Array Slot} {n i : Nat} {v : Value} {l l' : List (Option Value)} (h : lv_has ls n ((i, v) :: (jx_pr 0 l).filter (fun q => !(q.1 == i) && !(q.1 + 1 == i && q.2.category == 2)))) (hl : jx_st1 l i v l') : jx_L ls n l' := by
  refine ⟨h.1, h.2.1, fun j u hj => ?_⟩
  refine h.2.2 (j, u) ?_
  rcases hl j u hj with ⟨rfl, rfl⟩ | ⟨h1, h2, h3⟩
  · exact List.mem_cons_self
  · refine List.mem_cons_of_mem _ (List.mem_filter.mpr ⟨(jx_pr_mem l 0 j u).mpr ⟨Nat.zero_le _, by simpa using h2⟩, ?_⟩)
    simp only [Bool.and_eq_true, Bool.not_eq_true', beq_eq_false_iff_ne, ne_eq, Bool.and_eq_false_iff]
    refine ⟨h1, ?_⟩
    by_cases hc : u.category = 2
    · exact Or.inl (fun q => h3 ⟨q, hc⟩)
    · exact Or.inr hc
theorem jx_st2_ok {ls : Array Slot} {n i : Nat} {v : Value} {l l' : List (Option Value)} (h : lv_has ls n ((i, v) :: (jx_pr 0 l).filter (fun q => !(q.1 == i) && (!(q.1 == i + 1) && !(q.1 + 1 == i && q.2.category == 2))))) (hl : jx_st2 l i v l') : jx_L ls n l' := by
  refine ⟨h.1, h.2.1, fun j u hj => ?_⟩
  refine h.2.2 (j, u) ?_
  rcases hl j u hj with ⟨rfl, rfl⟩ | ⟨h1, h4, h2, h3⟩
  · exact List.mem_cons_self
  · refine List.mem_cons_of_mem _ (List.mem_filter.mpr ⟨(jx_pr_mem l 0 j u).mpr ⟨Nat.zero_le _, by simpa using h2⟩, ?_⟩)
    simp only [Bool.and_eq_true, Bool.not_eq_true', beq_eq_false_iff_ne, ne_eq, Bool.and_eq_false_iff]
    refine ⟨h1, h4, ?_⟩
    by_cases hc : u.category = 2
    · exact Or.inl (fun q => h3 ⟨q, hc⟩)
    · exact Or.inr hc
/-- a method: its name, its code, its locals, its answer's type -/
abbrev jx_md : Type := MethodName × ByteArray × Nat × Option FieldType
abbrev jx_h4 : Type := List (Nat × Nat × Nat × Nat)
def jx_CX (y : jx_md) (hh : jx_h4) (p : Program) (L : Launch) (s : State) (m : MethodId) (args : Array Value) (meth : Method) (c : Code) : Prop :=
  p.tables.exec = Jvm.exec ∧ c.code = y.2.1 ∧ meth.sig.returnType = y.2.2.2 ∧ c.maxLocals = y.2.2.1 ∧ s.vm.findClass y.1.cls = some m.cls ∧ (∀ w ∈ jx_tb, w.before args s = true) ∧ meth.locks = false ∧ meth.name = y.1.name ∧
  c.exceptionTable.toList.map (fun h => (h.startPc, h.endPc, h.handlerPc, h.catchType)) = hh ∧ L.stackTraces = false
/-- THE JUDGEMENT: from the frame at pc, with locals l, stack st, over every heap that holds the picture M, kc cells and ks slots made so far, the machine comes to Q -/
def jx_V (y : jx_md) (hh : jx_h4) (G : jx_G) (R : Room) (Q : Array Value → State → List Frame → State → Prop) (pc : Nat) (l : List (Option Value)) (st : List Value) (M : jx_H) (sz kc ks : Nat) : Prop :=
  ∀ (p : Program) (L : Launch) (e : Env) (s : State) (m : MethodId) (args : Array Value) (below : List Frame) (meth : Method) (c : Code), jx_CX y hh p L s m args meth c → jx_K G s →
    ∀ (H : Heap) (locs : List Loc) (ls : Array Slot), jx_R G M sz H → jx_S G s.heap H locs → jx_L ls y.2.2.1 l → W p L e R s m args below meth c H locs kc ks (Q args s below) (F0 m pc ls st)
section JX
variable {y : jx_md} {hh : jx_h4} {G : jx_G} {R : Room} {Q : Array Value → State → List Frame → State → Prop} {pc : Nat} {l : List (Option Value)} {st : List Value} {M : jx_H} {sz kc ks : Nat}
theorem jx_wk {l' : List (Option Value)} (hl : jx_le l l') (k : jx_V y hh G R Q pc l' st M sz kc ks) : jx_V y hh G R Q pc l st M sz kc ks := by
  intro p L e s m args below meth c C K H locs ls hR hS hL
  exact k p L e s m args below meth c C K H locs ls hR hS (hL.to (jx_le_at _ _ hl))
theorem jx_wi {kc' ks' : Nat} (h1 : kc ≤ kc') (h2 : ks ≤ ks') (k : jx_V y hh G R Q pc l st M sz kc' ks') : jx_V y hh G R Q pc l st M sz kc ks := by
  intro p L e s m args below meth c C K H locs ls hR hS hL
  exact W.widen h1 h2 (k p L e s m args below meth c C K H locs ls hR hS hL)
/-- what the picture tells of addresses: none lies beyond -/
theorem jx_lt (k : (∀ a e, M a = some e → a < sz) → jx_V y hh G R Q pc l st M sz kc ks) : jx_V y hh G R Q pc l st M sz kc ks := by
  intro p L e s m args below meth c C K H locs ls hR hS hL
  exact k (fun a e h => hR.lt h) p L e s m args below meth c C K H locs ls hR hS hL
theorem jx_pc {pc' : Nat} (h : pc = pc') (k : jx_V y hh G R Q pc' l st M sz kc ks) : jx_V y hh G R Q pc l st M sz kc ks := by
  subst h
  exact k

theorem jx_iconst {n : Int} {v : Int32} (d : decode y.2.1 pc = .ok (.iconst n, 1)) (hv : Int32.ofInt n = v) (k : jx_V y hh G R Q (pc + 1) l (.int v :: st) M sz kc ks) : jx_V y hh G R Q (pc) l (st) M sz kc ks := by
  intro p L e s m args below meth c C K H locs ls hR hS hL
  obtain ⟨hx, hb, hr, hml, hown, hts, hlk, hnm, hex, hst⟩ := id C
  exact lv_iconst hx hb d hv (k p L e s m args below meth c C K H locs ls hR hS hL)
theorem jx_bipush {n : Int} {v : Int32} (d : decode y.2.1 pc = .ok (.bipush n, 2)) (hv : (Int8.ofInt n).toInt32 = v) (k : jx_V y hh G R Q (pc + 2) l (.int v :: st) M sz kc ks) : jx_V y hh G R Q (pc) l (st) M sz kc ks := by
  intro p L e s m args below meth c C K H locs ls hR hS hL
  obtain ⟨hx, hb, hr, hml, hown, hts, hlk, hnm, hex, hst⟩ := id C
  exact lv_bipush hx hb d hv (k p L e s m args below meth c C K H locs ls hR hS hL)
theorem jx_sipush {n : Int} {v : Int32} (d : decode y.2.1 pc = .ok (.sipush n, 3)) (hv : (Int16.ofInt n).toInt32 = v) (k : jx_V y hh G R Q (pc + 3) l (.int v :: st) M sz kc ks) : jx_V y hh G R Q (pc) l (st) M sz kc ks := by
  intro p L e s m args below meth c C K H locs ls hR hS hL
  obtain ⟨hx, hb, hr, hml, hown, hts, hlk, hnm, hex, hst⟩ := id C
  exact lv_sipush hx hb d hv (k p L e s m args below meth c C K H locs ls hR hS hL)
theorem jx_lconst {n : Fin 2} {v : Int64} (d : decode y.2.1 pc = .ok (.lconst n, 1)) (hv : Int64.ofNat (n : Nat) = v) (k : jx_V y hh G R Q (pc + 1) l (.long v :: st) M sz kc ks) : jx_V y hh G R Q (pc) l (st) M sz kc ks := by
  intro p L e s m args below meth c C K H locs ls hR hS hL
  obtain ⟨hx, hb, hr, hml, hown, hts, hlk, hnm, hex, hst⟩ := id C
  exact lv_lconst hx hb d hv (k p L e s m args below meth c C K H locs ls hR hS hL)
theorem jx_ldc {own : String} {index : Nat} {v : Int32} (d : decode y.2.1 pc = .ok (.ldc index, 2)) (ho : y.1.cls = own) (hc : Jvm.Cond.constant own index v ∈ jx_tb) (k : jx_V y hh G R Q (pc + 2) l (.int v :: st) M sz kc ks) : jx_V y hh G R Q (pc) l (st) M sz kc ks := by
  intro p L e s m args below meth c C K H locs ls hR hS hL
  obtain ⟨hx, hb, hr, hml, hown, hts, hlk, hnm, hex, hst⟩ := id C
  exact lv_ldc (own := own) hx hb (by rw [← ho]; exact hown) (hts _ hc) d (k p L e s m args below meth c C K H locs ls hR hS hL)
theorem jx_ldcw {own : String} {index : Nat} {v : Int32} (d : decode y.2.1 pc = .ok (.ldc_w index, 3)) (ho : y.1.cls = own) (hc : Jvm.Cond.constant own index v ∈ jx_tb) (k : jx_V y hh G R Q (pc + 3) l (.int v :: st) M sz kc ks) : jx_V y hh G R Q (pc) l (st) M sz kc ks := by
  intro p L e s m args below meth c C K H locs ls hR hS hL
  obtain ⟨hx, hb, hr, hml, hown, hts, hlk, hnm, hex, hst⟩ := id C
  exact lv_ldcw (own := own) hx hb (by rw [← ho]; exact hown) (hts _ hc) d (k p L e s m args below meth c C K H locs ls hR hS hL)
theorem jx_ldc2 {own : String} {index : Nat} {v : Int64} (d : decode y.2.1 pc = .ok (.ldc2_w index, 3)) (ho : y.1.cls = own) (hc : Jvm.Cond.constantLong own index v ∈ jx_tb) (k : jx_V y hh G R Q (pc + 3) l (.long v :: st) M sz kc ks) : jx_V y hh G R Q (pc) l (st) M sz kc ks := by
  intro p L e s m args below meth c C K H locs ls hR hS hL
  obtain ⟨hx, hb, hr, hml, hown, hts, hlk, hnm, hex, hst⟩ := id C
  exact lv_ldc2 (own := own) hx hb (by rw [← ho]; exact hown) (hts _ hc) d (k p L e s m args below meth c C K H locs ls hR hS hL)
theorem jx_iload_n {j : Fin 4} {i : Nat} {x : Int32} (d : decode y.2.1 pc = .ok (.iload_n j, 1)) (hi : (j : Nat) = i) (hl : l[i]? = some (some (.int x))) (k : jx_V y hh G R Q (pc + 1) l (.int x :: st) M sz kc ks) : jx_V y hh G R Q (pc) l (st) M sz kc ks := by
  intro p L e s m args below meth c C K H locs ls hR hS hL
  obtain ⟨hx, hb, hr, hml, hown, hts, hlk, hnm, hex, hst⟩ := id C
  exact lv_iload_n hx hb d hi (hL.2.2 i _ hl) (k p L e s m args below meth c C K H locs ls hR hS hL)
theorem jx_iload {i : Nat} {x : Int32} (d : decode y.2.1 pc = .ok (.iload i, 2)) (hl : l[i]? = some (some (.int x))) (k : jx_V y hh G R Q (pc + 2) l (.int x :: st) M sz kc ks) : jx_V y hh G R Q (pc) l (st) M sz kc ks := by
  intro p L e s m args below meth c C K H locs ls hR hS hL
  obtain ⟨hx, hb, hr, hml, hown, hts, hlk, hnm, hex, hst⟩ := id C
  exact lv_iload hx hb d (hL.2.2 i _ hl) (k p L e s m args below meth c C K H locs ls hR hS hL)
theorem jx_lload_n {j : Fin 4} {i : Nat} {x : Int64} (d : decode y.2.1 pc = .ok (.lload_n j, 1)) (hi : (j : Nat) = i) (hl : l[i]? = some (some (.long x))) (k : jx_V y hh G R Q (pc + 1) l (.long x :: st) M sz kc ks) : jx_V y hh G R Q (pc) l (st) M sz kc ks := by
  intro p L e s m args below meth c C K H locs ls hR hS hL
  obtain ⟨hx, hb, hr, hml, hown, hts, hlk, hnm, hex, hst⟩ := id C
  exact lv_lload_n hx hb d hi (hL.2.2 i _ hl) (k p L e s m args below meth c C K H locs ls hR hS hL)
theorem jx_lload {i : Nat} {x : Int64} (d : decode y.2.1 pc = .ok (.lload i, 2)) (hl : l[i]? = some (some (.long x))) (k : jx_V y hh G R Q (pc + 2) l (.long x :: st) M sz kc ks) : jx_V y hh G R Q (pc) l (st) M sz kc ks := by
  intro p L e s m args below meth c C K H locs ls hR hS hL
  obtain ⟨hx, hb, hr, hml, hown, hts, hlk, hnm, hex, hst⟩ := id C
  exact lv_lload hx hb d (hL.2.2 i _ hl) (k p L e s m args below meth c C K H locs ls hR hS hL)
theorem jx_aload_n {j : Fin 4} {i : Nat} {x : Nat} (d : decode y.2.1 pc = .ok (.aload_n j, 1)) (hi : (j : Nat) = i) (hl : l[i]? = some (some (.ref x))) (k : jx_V y hh G R Q (pc + 1) l (.ref x :: st) M sz kc ks) : jx_V y hh G R Q (pc) l (st) M sz kc ks := by
  intro p L e s m args below meth c C K H locs ls hR hS hL
  obtain ⟨hx, hb, hr, hml, hown, hts, hlk, hnm, hex, hst⟩ := id C
  exact lv_aload_n hx hb d hi (hL.2.2 i _ hl) (k p L e s m args below meth c C K H locs ls hR hS hL)
theorem jx_aload {i : Nat} {x : Nat} (d : decode y.2.1 pc = .ok (.aload i, 2)) (hl : l[i]? = some (some (.ref x))) (k : jx_V y hh G R Q (pc + 2) l (.ref x :: st) M sz kc ks) : jx_V y hh G R Q (pc) l (st) M sz kc ks := by
  intro p L e s m args below meth c C K H locs ls hR hS hL
  obtain ⟨hx, hb, hr, hml, hown, hts, hlk, hnm, hex, hst⟩ := id C
  exact lv_aload hx hb d (hL.2.2 i _ hl) (k p L e s m args below meth c C K H locs ls hR hS hL)
theorem jx_iadd {x z : Int32} (d : decode y.2.1 pc = .ok (.iadd, 1)) (k : jx_V y hh G R Q (pc + 1) l (.int (x + z) :: st) M sz kc ks) : jx_V y hh G R Q (pc) l (.int z :: .int x :: st) M sz kc ks := by
  intro p L e s m args below meth c C K H locs ls hR hS hL
  obtain ⟨hx, hb, hr, hml, hown, hts, hlk, hnm, hex, hst⟩ := id C
  exact lv_iadd hx hb d (k p L e s m args below meth c C K H locs ls hR hS hL)
theorem jx_isub {x z : Int32} (d : decode y.2.1 pc = .ok (.isub, 1)) (k : jx_V y hh G R Q (pc + 1) l (.int (x - z) :: st) M sz kc ks) : jx_V y hh G R Q (pc) l (.int z :: .int x :: st) M sz kc ks := by
  intro p L e s m args below meth c C K H locs ls hR hS hL
  obtain ⟨hx, hb, hr, hml, hown, hts, hlk, hnm, hex, hst⟩ := id C
  exact lv_isub hx hb d (k p L e s m args below meth c C K H locs ls hR hS hL)
theorem jx_imul {x z : Int32} (d : decode y.2.1 pc = .ok (.imul, 1)) (k : jx_V y hh G R Q (pc + 1) l (.int (x * z) :: st) M sz kc ks) : jx_V y hh G R Q (pc) l (.int z :: .int x :: st) M sz kc ks := by
  intro p L e s m args below meth c C K H locs ls hR hS hL
  obtain ⟨hx, hb, hr, hml, hown, hts, hlk, hnm, hex, hst⟩ := id C
  exact lv_imul hx hb d (k p L e s m args below meth c C K H locs ls hR hS hL)
theorem jx_iand {x z : Int32} (d : decode y.2.1 pc = .ok (.iand, 1)) (k : jx_V y hh G R Q (pc + 1) l (.int (x &&& z) :: st) M sz kc ks) : jx_V y hh G R Q (pc) l (.int z :: .int x :: st) M sz kc ks := by
  intro p L e s m args below meth c C K H locs ls hR hS hL
  obtain ⟨hx, hb, hr, hml, hown, hts, hlk, hnm, hex, hst⟩ := id C
  exact lv_iand hx hb d (k p L e s m args below meth c C K H locs ls hR hS hL)
theorem jx_ior {x z : Int32} (d : decode y.2.1 pc = .ok (.ior, 1)) (k : jx_V y hh G R Q (pc + 1) l (.int (x ||| z) :: st) M sz kc ks) : jx_V y hh G R Q (pc) l (.int z :: .int x :: st) M sz kc ks := by
  intro p L e s m args below meth c C K H locs ls hR hS hL
  obtain ⟨hx, hb, hr, hml, hown, hts, hlk, hnm, hex, hst⟩ := id C
  exact lv_ior hx hb d (k p L e s m args below meth c C K H locs ls hR hS hL)
theorem jx_ixor {x z : Int32} (d : decode y.2.1 pc = .ok (.ixor, 1)) (k : jx_V y hh G R Q (pc + 1) l (.int (x ^^^ z) :: st) M sz kc ks) : jx_V y hh G R Q (pc) l (.int z :: .int x :: st) M sz kc ks := by
  intro p L e s m args below meth c C K H locs ls hR hS hL
  obtain ⟨hx, hb, hr, hml, hown, hts, hlk, hnm, hex, hst⟩ := id C
  exact lv_ixor hx hb d (k p L e s m args below meth c C K H locs ls hR hS hL)
theorem jx_ladd {x z : Int64} (d : decode y.2.1 pc = .ok (.ladd, 1)) (k : jx_V y hh G R Q (pc + 1) l (.long (x + z) :: st) M sz kc ks) : jx_V y hh G R Q (pc) l (.long z :: .long x :: st) M sz kc ks := by
  intro p L e s m args below meth c C K H locs ls hR hS hL
  obtain ⟨hx, hb, hr, hml, hown, hts, hlk, hnm, hex, hst⟩ := id C
  exact lv_ladd hx hb d (k p L e s m args below meth c C K H locs ls hR hS hL)
theorem jx_lsub {x z : Int64} (d : decode y.2.1 pc = .ok (.lsub, 1)) (k : jx_V y hh G R Q (pc + 1) l (.long (x - z) :: st) M sz kc ks) : jx_V y hh G R Q (pc) l (.long z :: .long x :: st) M sz kc ks := by
  intro p L e s m args below meth c C K H locs ls hR hS hL
  obtain ⟨hx, hb, hr, hml, hown, hts, hlk, hnm, hex, hst⟩ := id C
  exact lv_lsub hx hb d (k p L e s m args below meth c C K H locs ls hR hS hL)
theorem jx_lmul {x z : Int64} (d : decode y.2.1 pc = .ok (.lmul, 1)) (k : jx_V y hh G R Q (pc + 1) l (.long (x * z) :: st) M sz kc ks) : jx_V y hh G R Q (pc) l (.long z :: .long x :: st) M sz kc ks := by
  intro p L e s m args below meth c C K H locs ls hR hS hL
  obtain ⟨hx, hb, hr, hml, hown, hts, hlk, hnm, hex, hst⟩ := id C
  exact lv_lmul hx hb d (k p L e s m args below meth c C K H locs ls hR hS hL)
theorem jx_land {x z : Int64} (d : decode y.2.1 pc = .ok (.land, 1)) (k : jx_V y hh G R Q (pc + 1) l (.long (x &&& z) :: st) M sz kc ks) : jx_V y hh G R Q (pc) l (.long z :: .long x :: st) M sz kc ks := by
  intro p L e s m args below meth c C K H locs ls hR hS hL
  obtain ⟨hx, hb, hr, hml, hown, hts, hlk, hnm, hex, hst⟩ := id C
  exact lv_land hx hb d (k p L e s m args below meth c C K H locs ls hR hS hL)
theorem jx_lor {x z : Int64} (d : decode y.2.1 pc = .ok (.lor, 1)) (k : jx_V y hh G R Q (pc + 1) l (.long (x ||| z) :: st) M sz kc ks) : jx_V y hh G R Q (pc) l (.long z :: .long x :: st) M sz kc ks := by
  intro p L e s m args below meth c C K H locs ls hR hS hL
  obtain ⟨hx, hb, hr, hml, hown, hts, hlk, hnm, hex, hst⟩ := id C
  exact lv_lor hx hb d (k p L e s m args below meth c C K H locs ls hR hS hL)
theorem jx_lxor {x z : Int64} (d : decode y.2.1 pc = .ok (.lxor, 1)) (k : jx_V y hh G R Q (pc + 1) l (.long (x ^^^ z) :: st) M sz kc ks) : jx_V y hh G R Q (pc) l (.long z :: .long x :: st) M sz kc ks := by
  intro p L e s m args below meth c C K H locs ls hR hS hL
  obtain ⟨hx, hb, hr, hml, hown, hts, hlk, hnm, hex, hst⟩ := id C
  exact lv_lxor hx hb d (k p L e s m args below meth c C K H locs ls hR hS hL)
theorem jx_idiv {x z : Int32} (d : decode y.2.1 pc = .ok (.idiv, 1)) (hne : ¬ z = 0) (k : jx_V y hh G R Q (pc + 1) l (.int (x / z) :: st) M sz kc ks) : jx_V y hh G R Q (pc) l (.int z :: .int x :: st) M sz kc ks := by
  intro p L e s m args below meth c C K H locs ls hR hS hL
  obtain ⟨hx, hb, hr, hml, hown, hts, hlk, hnm, hex, hst⟩ := id C
  exact lv_idiv hx hb d hne (k p L e s m args below meth c C K H locs ls hR hS hL)
theorem jx_irem {x z : Int32} (d : decode y.2.1 pc = .ok (.irem, 1)) (hne : ¬ z = 0) (k : jx_V y hh G R Q (pc + 1) l (.int (x - x / z * z) :: st) M sz kc ks) : jx_V y hh G R Q (pc) l (.int z :: .int x :: st) M sz kc ks := by
  intro p L e s m args below meth c C K H locs ls hR hS hL
  obtain ⟨hx, hb, hr, hml, hown, hts, hlk, hnm, hex, hst⟩ := id C
  exact lv_irem hx hb d hne (k p L e s m args below meth c C K H locs ls hR hS hL)
theorem jx_ldiv {x z : Int64} (d : decode y.2.1 pc = .ok (.ldiv, 1)) (hne : ¬ z = 0) (k : jx_V y hh G R Q (pc + 1) l (.long (x / z) :: st) M sz kc ks) : jx_V y hh G R Q (pc) l (.long z :: .long x :: st) M sz kc ks := by
  intro p L e s m args below meth c C K H locs ls hR hS hL
  obtain ⟨hx, hb, hr, hml, hown, hts, hlk, hnm, hex, hst⟩ := id C
  exact lv_ldiv hx hb d hne (k p L e s m args below meth c C K H locs ls hR hS hL)
theorem jx_lrem {x z : Int64} (d : decode y.2.1 pc = .ok (.lrem, 1)) (hne : ¬ z = 0) (k : jx_V y hh G R Q (pc + 1) l (.long (x - x / z * z) :: st) M sz kc ks) : jx_V y hh G R Q (pc) l (.long z :: .long x :: st) M sz kc ks := by
  intro p L e s m args below meth c C K H locs ls hR hS hL
  obtain ⟨hx, hb, hr, hml, hown, hts, hlk, hnm, hex, hst⟩ := id C
  exact lv_lrem hx hb d hne (k p L e s m args below meth c C K H locs ls hR hS hL)
theorem jx_ineg {x : Int32} (d : decode y.2.1 pc = .ok (.ineg, 1)) (k : jx_V y hh G R Q (pc + 1) l (.int (-x) :: st) M sz kc ks) : jx_V y hh G R Q (pc) l (.int x :: st) M sz kc ks := by
  intro p L e s m args below meth c C K H locs ls hR hS hL
  obtain ⟨hx, hb, hr, hml, hown, hts, hlk, hnm, hex, hst⟩ := id C
  exact lv_ineg hx hb d (k p L e s m args below meth c C K H locs ls hR hS hL)
theorem jx_lneg {x : Int64} (d : decode y.2.1 pc = .ok (.lneg, 1)) (k : jx_V y hh G R Q (pc + 1) l (.long (-x) :: st) M sz kc ks) : jx_V y hh G R Q (pc) l (.long x :: st) M sz kc ks := by
  intro p L e s m args below meth c C K H locs ls hR hS hL
  obtain ⟨hx, hb, hr, hml, hown, hts, hlk, hnm, hex, hst⟩ := id C
  exact lv_lneg hx hb d (k p L e s m args below meth c C K H locs ls hR hS hL)
theorem jx_ishl {x z : Int32} (d : decode y.2.1 pc = .ok (.ishl, 1)) (k : jx_V y hh G R Q (pc + 1) l (.int (x <<< (z &&& 31)) :: st) M sz kc ks) : jx_V y hh G R Q (pc) l (.int z :: .int x :: st) M sz kc ks := by
  intro p L e s m args below meth c C K H locs ls hR hS hL
  obtain ⟨hx, hb, hr, hml, hown, hts, hlk, hnm, hex, hst⟩ := id C
  exact lv_ishl hx hb d (k p L e s m args below meth c C K H locs ls hR hS hL)
theorem jx_ishr {x z : Int32} (d : decode y.2.1 pc = .ok (.ishr, 1)) (k : jx_V y hh G R Q (pc + 1) l (.int (x >>> (z &&& 31)) :: st) M sz kc ks) : jx_V y hh G R Q (pc) l (.int z :: .int x :: st) M sz kc ks := by
  intro p L e s m args below meth c C K H locs ls hR hS hL
  obtain ⟨hx, hb, hr, hml, hown, hts, hlk, hnm, hex, hst⟩ := id C
  exact lv_ishr hx hb d (k p L e s m args below meth c C K H locs ls hR hS hL)
theorem jx_i2l {x : Int32} (d : decode y.2.1 pc = .ok (.i2l, 1)) (k : jx_V y hh G R Q (pc + 1) l (.long x.toInt64 :: st) M sz kc ks) : jx_V y hh G R Q (pc) l (.int x :: st) M sz kc ks := by
  intro p L e s m args below meth c C K H locs ls hR hS hL
  obtain ⟨hx, hb, hr, hml, hown, hts, hlk, hnm, hex, hst⟩ := id C
  exact lv_i2l hx hb d rfl (k p L e s m args below meth c C K H locs ls hR hS hL)
theorem jx_l2i {x : Int64} (d : decode y.2.1 pc = .ok (.l2i, 1)) (k : jx_V y hh G R Q (pc + 1) l (.int x.toInt32 :: st) M sz kc ks) : jx_V y hh G R Q (pc) l (.long x :: st) M sz kc ks := by
  intro p L e s m args below meth c C K H locs ls hR hS hL
  obtain ⟨hx, hb, hr, hml, hown, hts, hlk, hnm, hex, hst⟩ := id C
  exact lv_l2i hx hb d rfl (k p L e s m args below meth c C K H locs ls hR hS hL)
theorem jx_lshl {x : Int64} {z : Int32} (d : decode y.2.1 pc = .ok (.lshl, 1)) (k : jx_V y hh G R Q (pc + 1) l (.long (x <<< (z.toInt64 &&& 63)) :: st) M sz kc ks) : jx_V y hh G R Q (pc) l (.int z :: .long x :: st) M sz kc ks := by
  intro p L e s m args below meth c C K H locs ls hR hS hL
  obtain ⟨hx, hb, hr, hml, hown, hts, hlk, hnm, hex, hst⟩ := id C
  exact lv_lshl hx hb d rfl (k p L e s m args below meth c C K H locs ls hR hS hL)
theorem jx_lshr {x : Int64} {z : Int32} (d : decode y.2.1 pc = .ok (.lshr, 1)) (k : jx_V y hh G R Q (pc + 1) l (.long (x >>> (z.toInt64 &&& 63)) :: st) M sz kc ks) : jx_V y hh G R Q (pc) l (.int z :: .long x :: st) M sz kc ks := by
  intro p L e s m args below meth c C K H locs ls hR hS hL
  obtain ⟨hx, hb, hr, hml, hown, hts, hlk, hnm, hex, hst⟩ := id C
  exact lv_lshr hx hb d rfl (k p L e s m args below meth c C K H locs ls hR hS hL)
theorem jx_lcmp {x z : Int64} (d : decode y.2.1 pc = .ok (.lcmp, 1)) (k : jx_V y hh G R Q (pc + 1) l (.int (lg_cmp x z) :: st) M sz kc ks) : jx_V y hh G R Q (pc) l (.long z :: .long x :: st) M sz kc ks := by
  intro p L e s m args below meth c C K H locs ls hR hS hL
  obtain ⟨hx, hb, hr, hml, hown, hts, hlk, hnm, hex, hst⟩ := id C
  exact W.lcmp hx hb d (k p L e s m args below meth c C K H locs ls hR hS hL)
theorem jx_dup2_2 {va : Value} (d : decode y.2.1 pc = .ok (.dup2, 1)) (hc : va.category = 2) (k : jx_V y hh G R Q (pc + 1) l (va :: va :: st) M sz kc ks) : jx_V y hh G R Q (pc) l (va :: st) M sz kc ks := by
  intro p L e s m args below meth c C K H locs ls hR hS hL
  obtain ⟨hx, hb, hr, hml, hown, hts, hlk, hnm, hex, hst⟩ := id C
  exact lv_dup2_2 hx hb d hc (k p L e s m args below meth c C K H locs ls hR hS hL)
theorem jx_dup2_11 {va vb : Value} (d : decode y.2.1 pc = .ok (.dup2, 1)) (hc : va.category = 1) (hc2 : vb.category = 1) (k : jx_V y hh G R Q (pc + 1) l (va :: vb :: va :: vb :: st) M sz kc ks) : jx_V y hh G R Q (pc) l (va :: vb :: st) M sz kc ks := by
  intro p L e s m args below meth c C K H locs ls hR hS hL
  obtain ⟨hx, hb, hr, hml, hown, hts, hlk, hnm, hex, hst⟩ := id C
  exact lv_dup2_11 hx hb d hc hc2 (k p L e s m args below meth c C K H locs ls hR hS hL)
theorem jx_dup_x1 {va vb : Value} (d : decode y.2.1 pc = .ok (.dup_x1, 1)) (hc : va.category = 1) (hc2 : vb.category = 1) (k : jx_V y hh G R Q (pc + 1) l (va :: vb :: va :: st) M sz kc ks) : jx_V y hh G R Q (pc) l (va :: vb :: st) M sz kc ks := by
  intro p L e s m args below meth c C K H locs ls hR hS hL
  obtain ⟨hx, hb, hr, hml, hown, hts, hlk, hnm, hex, hst⟩ := id C
  exact lv_dup_x1 hx hb d hc hc2 (k p L e s m args below meth c C K H locs ls hR hS hL)
theorem jx_dup_x2 {va vb vc : Value} (d : decode y.2.1 pc = .ok (.dup_x2, 1)) (hc : va.category = 1) (hc2 : vb.category = 1) (hc3 : vc.category = 1) (k : jx_V y hh G R Q (pc + 1) l (va :: vb :: vc :: va :: st) M sz kc ks) : jx_V y hh G R Q (pc) l (va :: vb :: vc :: st) M sz kc ks := by
  intro p L e s m args below meth c C K H locs ls hR hS hL
  obtain ⟨hx, hb, hr, hml, hown, hts, hlk, hnm, hex, hst⟩ := id C
  exact lv_dup_x2 hx hb d hc hc2 hc3 (k p L e s m args below meth c C K H locs ls hR hS hL)
theorem jx_pop2_2 {va : Value} (d : decode y.2.1 pc = .ok (.pop2, 1)) (hc : va.category = 2) (k : jx_V y hh G R Q (pc + 1) l (st) M sz kc ks) : jx_V y hh G R Q (pc) l (va :: st) M sz kc ks := by
  intro p L e s m args below meth c C K H locs ls hR hS hL
  obtain ⟨hx, hb, hr, hml, hown, hts, hlk, hnm, hex, hst⟩ := id C
  exact lv_pop2_2 hx hb d hc (k p L e s m args below meth c C K H locs ls hR hS hL)
theorem jx_dup {va : Value} (d : decode y.2.1 pc = .ok (.dup, 1)) (hc : va.category = 1) (k : jx_V y hh G R Q (pc + 1) l (va :: va :: st) M sz kc ks) : jx_V y hh G R Q (pc) l (va :: st) M sz kc ks := by
  intro p L e s m args below meth c C K H locs ls hR hS hL
  obtain ⟨hx, hb, hr, hml, hown, hts, hlk, hnm, hex, hst⟩ := id C
  exact lv_dup hx hb d hc (k p L e s m args below meth c C K H locs ls hR hS hL)
theorem jx_pop {va : Value} (d : decode y.2.1 pc = .ok (.pop, 1)) (hc : va.category = 1) (k : jx_V y hh G R Q (pc + 1) l (st) M sz kc ks) : jx_V y hh G R Q (pc) l (va :: st) M sz kc ks := by
  intro p L e s m args below meth c C K H locs ls hR hS hL
  obtain ⟨hx, hb, hr, hml, hown, hts, hlk, hnm, hex, hst⟩ := id C
  exact lv_pop hx hb d hc (k p L e s m args below meth c C K H locs ls hR hS hL)
theorem jx_istore_n {j : Fin 4} {i : Nat} {x : Int32} {l' : List (Option Value)} (d : decode y.2.1 pc = .ok (.istore_n j, 1)) (hi : (j : Nat) = i) (hn : i < y.2.2.1) (hl : jx_st1 l i (.int x) l') (k : jx_V y hh G R Q (pc + 1) l' (st) M sz kc ks) : jx_V y hh G R Q (pc) l (.int x :: st) M sz kc ks := by
  intro p L e s m args below meth c C K H locs ls hR hS hL
  obtain ⟨hx, hb, hr, hml, hown, hts, hlk, hnm, hex, hst⟩ := id C
  exact lv_istore_n hx hb d hi hL.has hn rfl (fun ls' h' => k p L e s m args below meth c C K H locs ls' hR hS (jx_st1_ok h' hl))
theorem jx_istore {i : Nat} {x : Int32} {l' : List (Option Value)} (d : decode y.2.1 pc = .ok (.istore i, 2)) (hn : i < y.2.2.1) (hl : jx_st1 l i (.int x) l') (k : jx_V y hh G R Q (pc + 2) l' (st) M sz kc ks) : jx_V y hh G R Q (pc) l (.int x :: st) M sz kc ks := by
  intro p L e s m args below meth c C K H locs ls hR hS hL
  obtain ⟨hx, hb, hr, hml, hown, hts, hlk, hnm, hex, hst⟩ := id C
  exact lv_istore hx hb d hL.has hn rfl (fun ls' h' => k p L e s m args below meth c C K H locs ls' hR hS (jx_st1_ok h' hl))
theorem jx_lstore_n {j : Fin 4} {i : Nat} {x : Int64} {l' : List (Option Value)} (d : decode y.2.1 pc = .ok (.lstore_n j, 1)) (hi : (j : Nat) = i) (hn : i + 1 < y.2.2.1) (hl : jx_st2 l i (.long x) l') (k : jx_V y hh G R Q (pc + 1) l' (st) M sz kc ks) : jx_V y hh G R Q (pc) l (.long x :: st) M sz kc ks := by
  intro p L e s m args below meth c C K H locs ls hR hS hL
  obtain ⟨hx, hb, hr, hml, hown, hts, hlk, hnm, hex, hst⟩ := id C
  exact lv_lstore_n hx hb d hi hL.has hn rfl (fun ls' h' => k p L e s m args below meth c C K H locs ls' hR hS (jx_st2_ok h' hl))
theorem jx_lstore {i : Nat} {x : Int64} {l' : List (Option Value)} (d : decode y.2.1 pc = .ok (.lstore i, 2)) (hn : i + 1 < y.2.2.1) (hl : jx_st2 l i (.long x) l') (k : jx_V y hh G R Q (pc + 2) l' (st) M sz kc ks) : jx_V y hh G R Q (pc) l (.long x :: st) M sz kc ks := by
  intro p L e s m args below meth c C K H locs ls hR hS hL
  obtain ⟨hx, hb, hr, hml, hown, hts, hlk, hnm, hex, hst⟩ := id C
  exact lv_lstore hx hb d hL.has hn rfl (fun ls' h' => k p L e s m args below meth c C K H locs ls' hR hS (jx_st2_ok h' hl))
theorem jx_astore_n {j : Fin 4} {i : Nat} {x : Nat} {l' : List (Option Value)} (d : decode y.2.1 pc = .ok (.astore_n j, 1)) (hi : (j : Nat) = i) (hn : i < y.2.2.1) (hl : jx_st1 l i (.ref x) l') (k : jx_V y hh G R Q (pc + 1) l' (st) M sz kc ks) : jx_V y hh G R Q (pc) l (.ref x :: st) M sz kc ks := by
  intro p L e s m args below meth c C K H locs ls hR hS hL
  obtain ⟨hx, hb, hr, hml, hown, hts, hlk, hnm, hex, hst⟩ := id C
  exact lv_astore_n hx hb d hi hL.has hn rfl (fun ls' h' => k p L e s m args below meth c C K H locs ls' hR hS (jx_st1_ok h' hl))
theorem jx_astore {i : Nat} {x : Nat} {l' : List (Option Value)} (d : decode y.2.1 pc = .ok (.astore i, 2)) (hn : i < y.2.2.1) (hl : jx_st1 l i (.ref x) l') (k : jx_V y hh G R Q (pc + 2) l' (st) M sz kc ks) : jx_V y hh G R Q (pc) l (.ref x :: st) M sz kc ks := by
  intro p L e s m args below meth c C K H locs ls hR hS hL
  obtain ⟨hx, hb, hr, hml, hown, hts, hlk, hnm, hex, hst⟩ := id C
  exact lv_astore hx hb d hL.has hn rfl (fun ls' h' => k p L e s m args below meth c C K H locs ls' hR hS (jx_st1_ok h' hl))
theorem jx_iincX {i : Nat} {n : Int} {x v : Int32} {l' : List (Option Value)} (d : decode y.2.1 pc = .ok (.iinc i n, 3)) (hv : l[i]? = some (some (.int x))) (hx2 : x + Int32.ofInt n = v) (hn : i < y.2.2.1) (hl : jx_st1 l i (.int v) l') (k : jx_V y hh G R Q (pc + 3) l' (st) M sz kc ks) : jx_V y hh G R Q (pc) l (st) M sz kc ks := by
  intro p L e s m args below meth c C K H locs ls hR hS hL
  obtain ⟨hx, hb, hr, hml, hown, hts, hlk, hnm, hex, hst⟩ := id C
  obtain ⟨q, hq⟩ := List.getElem?_of_mem ((jx_pr_mem l 0 i (.int x)).mpr ⟨Nat.zero_le _, by simpa using hv⟩)
  exact lv_iinc hx hb d hL.has hq hx2 hn rfl (fun ls' h' => k p L e s m args below meth c C K H locs ls' hR hS (jx_st1_ok h' hl))
theorem jx_iinc {i : Nat} {x : Int32} {l' : List (Option Value)} (d : decode y.2.1 pc = .ok (.iinc i 1, 3)) (hv : l[i]? = some (some (.int x))) (hn : i < y.2.2.1) (hl : jx_st1 l i (.int (x + 1)) l') (k : jx_V y hh G R Q (pc + 3) l' (st) M sz kc ks) : jx_V y hh G R Q (pc) l (st) M sz kc ks := jx_iincX d hv rfl hn hl k
theorem jx_iincM {i : Nat} {x : Int32} {l' : List (Option Value)} (d : decode y.2.1 pc = .ok (.iinc i (-1), 3)) (hv : l[i]? = some (some (.int x))) (hn : i < y.2.2.1) (hl : jx_st1 l i (.int (x + (-1))) l') (k : jx_V y hh G R Q (pc + 3) l' (st) M sz kc ks) : jx_V y hh G R Q (pc) l (st) M sz kc ks := jx_iincX d hv rfl hn hl k
theorem jx_if_eq {x : Int32} {off : Int} {tgt : Nat} (d : decode y.2.1 pc = .ok (.ifCond .eq off, 3)) (ht : (pc : Int) + off = (tgt : Int)) (kt : x = 0 → jx_V y hh G R Q (tgt) l (st) M sz kc ks) (kf : ¬ x = 0 → jx_V y hh G R Q (pc + 3) l (st) M sz kc ks) : jx_V y hh G R Q (pc) l (.int x :: st) M sz kc ks := by
  intro p L e s m args below meth c C K H locs ls hR hS hL
  obtain ⟨hx, hb, hr, hml, hown, hts, hlk, hnm, hex, hst⟩ := id C
  exact lv_if_eq hx hb d ht (fun q => kt q p L e s m args below meth c C K H locs ls hR hS hL) (fun q => kf q p L e s m args below meth c C K H locs ls hR hS hL)
theorem jx_icmp_eq {x z : Int32} {off : Int} {tgt : Nat} (d : decode y.2.1 pc = .ok (.if_icmp .eq off, 3)) (ht : (pc : Int) + off = (tgt : Int)) (kt : x = z → jx_V y hh G R Q (tgt) l (st) M sz kc ks) (kf : ¬ x = z → jx_V y hh G R Q (pc + 3) l (st) M sz kc ks) : jx_V y hh G R Q (pc) l (.int z :: .int x :: st) M sz kc ks := by
  intro p L e s m args below meth c C K H locs ls hR hS hL
  obtain ⟨hx, hb, hr, hml, hown, hts, hlk, hnm, hex, hst⟩ := id C
  exact lv_icmp_eq hx hb d ht (fun q => kt q p L e s m args below meth c C K H locs ls hR hS hL) (fun q => kf q p L e s m args below meth c C K H locs ls hR hS hL)
theorem jx_if_ne {x : Int32} {off : Int} {tgt : Nat} (d : decode y.2.1 pc = .ok (.ifCond .ne off, 3)) (ht : (pc : Int) + off = (tgt : Int)) (kt : ¬ x = 0 → jx_V y hh G R Q (tgt) l (st) M sz kc ks) (kf : x = 0 → jx_V y hh G R Q (pc + 3) l (st) M sz kc ks) : jx_V y hh G R Q (pc) l (.int x :: st) M sz kc ks := by
  intro p L e s m args below meth c C K H locs ls hR hS hL
  obtain ⟨hx, hb, hr, hml, hown, hts, hlk, hnm, hex, hst⟩ := id C
  exact lv_if_ne hx hb d ht (fun q => kt q p L e s m args below meth c C K H locs ls hR hS hL) (fun q => kf q p L e s m args below meth c C K H locs ls hR hS hL)
theorem jx_icmp_ne {x z : Int32} {off : Int} {tgt : Nat} (d : decode y.2.1 pc = .ok (.if_icmp .ne off, 3)) (ht : (pc : Int) + off = (tgt : Int)) (kt : ¬ x = z → jx_V y hh G R Q (tgt) l (st) M sz kc ks) (kf : x = z → jx_V y hh G R Q (pc + 3) l (st) M sz kc ks) : jx_V y hh G R Q (pc) l (.int z :: .int x :: st) M sz kc ks := by
  intro p L e s m args below meth c C K H locs ls hR hS hL
  obtain ⟨hx, hb, hr, hml, hown, hts, hlk, hnm, hex, hst⟩ := id C
  exact lv_icmp_ne hx hb d ht (fun q => kt q p L e s m args below meth c C K H locs ls hR hS hL) (fun q => kf q p L e s m args below meth c C K H locs ls hR hS hL)
theorem jx_if_lt {x : Int32} {off : Int} {tgt : Nat} (d : decode y.2.1 pc = .ok (.ifCond .lt off, 3)) (ht : (pc : Int) + off = (tgt : Int)) (kt : x < 0 → jx_V y hh G R Q (tgt) l (st) M sz kc ks) (kf : ¬ x < 0 → jx_V y hh G R Q (pc + 3) l (st) M sz kc ks) : jx_V y hh G R Q (pc) l (.int x :: st) M sz kc ks := by
  intro p L e s m args below meth c C K H locs ls hR hS hL
  obtain ⟨hx, hb, hr, hml, hown, hts, hlk, hnm, hex, hst⟩ := id C
  exact lv_if_lt hx hb d ht (fun q => kt q p L e s m args below meth c C K H locs ls hR hS hL) (fun q => kf q p L e s m args below meth c C K H locs ls hR hS hL)
theorem jx_icmp_lt {x z : Int32} {off : Int} {tgt : Nat} (d : decode y.2.1 pc = .ok (.if_icmp .lt off, 3)) (ht : (pc : Int) + off = (tgt : Int)) (kt : x < z → jx_V y hh G R Q (tgt) l (st) M sz kc ks) (kf : ¬ x < z → jx_V y hh G R Q (pc + 3) l (st) M sz kc ks) : jx_V y hh G R Q (pc) l (.int z :: .int x :: st) M sz kc ks := by
  intro p L e s m args below meth c C K H locs ls hR hS hL
  obtain ⟨hx, hb, hr, hml, hown, hts, hlk, hnm, hex, hst⟩ := id C
  exact lv_icmp_lt hx hb d ht (fun q => kt q p L e s m args below meth c C K H locs ls hR hS hL) (fun q => kf q p L e s m args below meth c C K H locs ls hR hS hL)
theorem jx_if_ge {x : Int32} {off : Int} {tgt : Nat} (d : decode y.2.1 pc = .ok (.ifCond .ge off, 3)) (ht : (pc : Int) + off = (tgt : Int)) (kt : 0 ≤ x → jx_V y hh G R Q (tgt) l (st) M sz kc ks) (kf : ¬ 0 ≤ x → jx_V y hh G R Q (pc + 3) l (st) M sz kc ks) : jx_V y hh G R Q (pc) l (.int x :: st) M sz kc ks := by
  intro p L e s m args below meth c C K H locs ls hR hS hL
  obtain ⟨hx, hb, hr, hml, hown, hts, hlk, hnm, hex, hst⟩ := id C
  exact lv_if_ge hx hb d ht (fun q => kt q p L e s m args below meth c C K H locs ls hR hS hL) (fun q => kf q p L e s m args below meth c C K H locs ls hR hS hL)
theorem jx_icmp_ge {x z : Int32} {off : Int} {tgt : Nat} (d : decode y.2.1 pc = .ok (.if_icmp .ge off, 3)) (ht : (pc : Int) + off = (tgt : Int)) (kt : z ≤ x → jx_V y hh G R Q (tgt) l (st) M sz kc ks) (kf : ¬ z ≤ x → jx_V y hh G R Q (pc + 3) l (st) M sz kc ks) : jx_V y hh G R Q (pc) l (.int z :: .int x :: st) M sz kc ks := by
  intro p L e s m args below meth c C K H locs ls hR hS hL
  obtain ⟨hx, hb, hr, hml, hown, hts, hlk, hnm, hex, hst⟩ := id C
  exact lv_icmp_ge hx hb d ht (fun q => kt q p L e s m args below meth c C K H locs ls hR hS hL) (fun q => kf q p L e s m args below meth c C K H locs ls hR hS hL)
theorem jx_if_gt {x : Int32} {off : Int} {tgt : Nat} (d : decode y.2.1 pc = .ok (.ifCond .gt off, 3)) (ht : (pc : Int) + off = (tgt : Int)) (kt : 0 < x → jx_V y hh G R Q (tgt) l (st) M sz kc ks) (kf : ¬ 0 < x → jx_V y hh G R Q (pc + 3) l (st) M sz kc ks) : jx_V y hh G R Q (pc) l (.int x :: st) M sz kc ks := by
  intro p L e s m args below meth c C K H locs ls hR hS hL
  obtain ⟨hx, hb, hr, hml, hown, hts, hlk, hnm, hex, hst⟩ := id C
  exact lv_if_gt hx hb d ht (fun q => kt q p L e s m args below meth c C K H locs ls hR hS hL) (fun q => kf q p L e s m args below meth c C K H locs ls hR hS hL)
theorem jx_icmp_gt {x z : Int32} {off : Int} {tgt : Nat} (d : decode y.2.1 pc = .ok (.if_icmp .gt off, 3)) (ht : (pc : Int) + off = (tgt : Int)) (kt : z < x → jx_V y hh G R Q (tgt) l (st) M sz kc ks) (kf : ¬ z < x → jx_V y hh G R Q (pc + 3) l (st) M sz kc ks) : jx_V y hh G R Q (pc) l (.int z :: .int x :: st) M sz kc ks := by
  intro p L e s m args below meth c C K H locs ls hR hS hL
  obtain ⟨hx, hb, hr, hml, hown, hts, hlk, hnm, hex, hst⟩ := id C
  exact lv_icmp_gt hx hb d ht (fun q => kt q p L e s m args below meth c C K H locs ls hR hS hL) (fun q => kf q p L e s m args below meth c C K H locs ls hR hS hL)
theorem jx_if_le {x : Int32} {off : Int} {tgt : Nat} (d : decode y.2.1 pc = .ok (.ifCond .le off, 3)) (ht : (pc : Int) + off = (tgt : Int)) (kt : x ≤ 0 → jx_V y hh G R Q (tgt) l (st) M sz kc ks) (kf : ¬ x ≤ 0 → jx_V y hh G R Q (pc + 3) l (st) M sz kc ks) : jx_V y hh G R Q (pc) l (.int x :: st) M sz kc ks := by
  intro p L e s m args below meth c C K H locs ls hR hS hL
  obtain ⟨hx, hb, hr, hml, hown, hts, hlk, hnm, hex, hst⟩ := id C
  exact lv_if_le hx hb d ht (fun q => kt q p L e s m args below meth c C K H locs ls hR hS hL) (fun q => kf q p L e s m args below meth c C K H locs ls hR hS hL)
theorem jx_icmp_le {x z : Int32} {off : Int} {tgt : Nat} (d : decode y.2.1 pc = .ok (.if_icmp .le off, 3)) (ht : (pc : Int) + off = (tgt : Int)) (kt : x ≤ z → jx_V y hh G R Q (tgt) l (st) M sz kc ks) (kf : ¬ x ≤ z → jx_V y hh G R Q (pc + 3) l (st) M sz kc ks) : jx_V y hh G R Q (pc) l (.int z :: .int x :: st) M sz kc ks := by
  intro p L e s m args below meth c C K H locs ls hR hS hL
  obtain ⟨hx, hb, hr, hml, hown, hts, hlk, hnm, hex, hst⟩ := id C
  exact lv_icmp_le hx hb d ht (fun q => kt q p L e s m args below meth c C K H locs ls hR hS hL) (fun q => kf q p L e s m args below meth c C K H locs ls hR hS hL)
theorem jx_l_eq {x z : Int64} {off : Int} {tgt : Nat} (d : decode y.2.1 pc = .ok (.lcmp, 1)) (d2 : decode y.2.1 (pc + 1) = .ok (.ifCond .eq off, 3)) (ht : ((pc + 1 : Nat) : Int) + off = (tgt : Int)) (kt : x = z → jx_V y hh G R Q (tgt) l (st) M sz kc ks) (kf : ¬ x = z → jx_V y hh G R Q (pc + 1 + 3) l (st) M sz kc ks) : jx_V y hh G R Q (pc) l (.long z :: .long x :: st) M sz kc ks :=
  jx_lcmp d (jx_if_eq d2 ht (fun q => kt ((lg_cmp_eq x z).mp q)) (fun q => kf (fun h => q ((lg_cmp_eq x z).mpr h))))
theorem jx_l_ne {x z : Int64} {off : Int} {tgt : Nat} (d : decode y.2.1 pc = .ok (.lcmp, 1)) (d2 : decode y.2.1 (pc + 1) = .ok (.ifCond .ne off, 3)) (ht : ((pc + 1 : Nat) : Int) + off = (tgt : Int)) (kt : ¬ x = z → jx_V y hh G R Q (tgt) l (st) M sz kc ks) (kf : x = z → jx_V y hh G R Q (pc + 1 + 3) l (st) M sz kc ks) : jx_V y hh G R Q (pc) l (.long z :: .long x :: st) M sz kc ks :=
  jx_lcmp d (jx_if_ne d2 ht (fun q => kt (fun h => q ((lg_cmp_eq x z).mpr h))) (fun q => kf ((lg_cmp_eq x z).mp q)))
theorem jx_l_lt {x z : Int64} {off : Int} {tgt : Nat} (d : decode y.2.1 pc = .ok (.lcmp, 1)) (d2 : decode y.2.1 (pc + 1) = .ok (.ifCond .lt off, 3)) (ht : ((pc + 1 : Nat) : Int) + off = (tgt : Int)) (kt : x < z → jx_V y hh G R Q (tgt) l (st) M sz kc ks) (kf : ¬ x < z → jx_V y hh G R Q (pc + 1 + 3) l (st) M sz kc ks) : jx_V y hh G R Q (pc) l (.long z :: .long x :: st) M sz kc ks :=
  jx_lcmp d (jx_if_lt d2 ht (fun q => kt ((lg_cmp_lt x z).mp q)) (fun q => kf (fun h => q ((lg_cmp_lt x z).mpr h))))
theorem jx_l_ge {x z : Int64} {off : Int} {tgt : Nat} (d : decode y.2.1 pc = .ok (.lcmp, 1)) (d2 : decode y.2.1 (pc + 1) = .ok (.ifCond .ge off, 3)) (ht : ((pc + 1 : Nat) : Int) + off = (tgt : Int)) (kt : z ≤ x → jx_V y hh G R Q (tgt) l (st) M sz kc ks) (kf : ¬ z ≤ x → jx_V y hh G R Q (pc + 1 + 3) l (st) M sz kc ks) : jx_V y hh G R Q (pc) l (.long z :: .long x :: st) M sz kc ks :=
  jx_lcmp d (jx_if_ge d2 ht (fun q => kt ((lg_cmp_ge x z).mp q)) (fun q => kf (fun h => q ((lg_cmp_ge x z).mpr h))))
theorem jx_l_gt {x z : Int64} {off : Int} {tgt : Nat} (d : decode y.2.1 pc = .ok (.lcmp, 1)) (d2 : decode y.2.1 (pc + 1) = .ok (.ifCond .gt off, 3)) (ht : ((pc + 1 : Nat) : Int) + off = (tgt : Int)) (kt : z < x → jx_V y hh G R Q (tgt) l (st) M sz kc ks) (kf : ¬ z < x → jx_V y hh G R Q (pc + 1 + 3) l (st) M sz kc ks) : jx_V y hh G R Q (pc) l (.long z :: .long x :: st) M sz kc ks :=
  jx_lcmp d (jx_if_gt d2 ht (fun q => kt ((lg_cmp_gt x z).mp q)) (fun q => kf (fun h => q ((lg_cmp_gt x z).mpr h))))
theorem jx_l_le {x z : Int64} {off : Int} {tgt : Nat} (d : decode y.2.1 pc = .ok (.lcmp, 1)) (d2 : decode y.2.1 (pc + 1) = .ok (.ifCond .le off, 3)) (ht : ((pc + 1 : Nat) : Int) + off = (tgt : Int)) (kt : x ≤ z → jx_V y hh G R Q (tgt) l (st) M sz kc ks) (kf : ¬ x ≤ z → jx_V y hh G R Q (pc + 1 + 3) l (st) M sz kc ks) : jx_V y hh G R Q (pc) l (.long z :: .long x :: st) M sz kc ks :=
  jx_lcmp d (jx_if_le d2 ht (fun q => kt ((lg_cmp_le x z).mp q)) (fun q => kf (fun h => q ((lg_cmp_le x z).mpr h))))
theorem jx_goto {off : Int} {tgt : Nat} (d : decode y.2.1 pc = .ok (.goto off, 3)) (ht : (pc : Int) + off = (tgt : Int)) (k : jx_V y hh G R Q (tgt) l (st) M sz kc ks) : jx_V y hh G R Q (pc) l (st) M sz kc ks := by
  intro p L e s m args below meth c C K H locs ls hR hS hL
  obtain ⟨hx, hb, hr, hml, hown, hts, hlk, hnm, hex, hst⟩ := id C
  exact lv_goto hx hb d ht (k p L e s m args below meth c C K H locs ls hR hS hL)
theorem jx_tableOut {dflt lo hi : Int} {offs : Array Int} {len : Nat} {x : Int32} {tgt : Nat} (d : decode y.2.1 pc = .ok (.tableswitch dflt lo hi offs, len)) (h : x.toInt < lo ∨ hi < x.toInt) (ht : (pc : Int) + dflt = (tgt : Int)) (k : jx_V y hh G R Q (tgt) l (st) M sz kc ks) : jx_V y hh G R Q (pc) l (.int x :: st) M sz kc ks := by
  intro p L e s m args below meth c C K H locs ls hR hS hL
  obtain ⟨hx, hb, hr, hml, hown, hts, hlk, hnm, hex, hst⟩ := id C
  exact lv_tableOut hx hb d h ht (k p L e s m args below meth c C K H locs ls hR hS hL)
theorem jx_tableIn {dflt lo hi : Int} {offs : Array Int} {len : Nat} {x : Int32} {off : Int} {tgt : Nat} (d : decode y.2.1 pc = .ok (.tableswitch dflt lo hi offs, len)) (h1 : ¬ x.toInt < lo) (h2 : ¬ hi < x.toInt) (ho : offs[(x.toInt - lo).toNat]? = some off) (ht : (pc : Int) + off = (tgt : Int)) (k : jx_V y hh G R Q (tgt) l (st) M sz kc ks) : jx_V y hh G R Q (pc) l (.int x :: st) M sz kc ks := by
  intro p L e s m args below meth c C K H locs ls hR hS hL
  obtain ⟨hx, hb, hr, hml, hown, hts, hlk, hnm, hex, hst⟩ := id C
  exact lv_tableIn hx hb d h1 h2 ho ht (k p L e s m args below meth c C K H locs ls hR hS hL)
theorem jx_lookup {dflt : Int} {ps : Array (Int × Int)} {len : Nat} {x : Int32} {off : Int} {tgt : Nat} (d : decode y.2.1 pc = .ok (.lookupswitch dflt ps, len)) (hp : (ps.toList.zip (ps.toList.drop 1)).all (fun (a, next) => a.1 < next.1) = true) (ho : Op.lookupswitch.offset ps.toList dflt x.toInt = off) (ht : (pc : Int) + off = (tgt : Int)) (k : jx_V y hh G R Q (tgt) l (st) M sz kc ks) : jx_V y hh G R Q (pc) l (.int x :: st) M sz kc ks := by
  intro p L e s m args below meth c C K H locs ls hR hS hL
  obtain ⟨hx, hb, hr, hml, hown, hts, hlk, hnm, hex, hst⟩ := id C
  exact lv_lookup hx hb d hp ho ht (k p L e s m args below meth c C K H locs ls hR hS hL)
end JX
theorem jx_e1_0 {v : Value} {a0 : Option Value} : jx_st1 [a0] 0 v [some v] := jx_st1_app [] [] trivial
theorem jx_e2_0 {v : Value} {a0 a1 : Option Value} : jx_st1 [a0, a1] 0 v [some v, a1] := jx_st1_app [] [a1] trivial
theorem jx_f2_0 {v : Value} {a0 a1 : Option Value} : jx_st2 [a0, a1] 0 v [some v, none] := jx_st2_app [] [] trivial
theorem jx_e2_1 {v : Value} {a0 a1 : Option Value} (h : jx_nl a0) : jx_st1 [a0, a1] 1 v [a0, some v] := jx_st1_app [a0] [] h
theorem jx_e3_0 {v : Value} {a0 a1 a2 : Option Value} : jx_st1 [a0, a1, a2] 0 v [some v, a1, a2] := jx_st1_app [] [a1, a2] trivial
theorem jx_f3_0 {v : Value} {a0 a1 a2 : Option Value} : jx_st2 [a0, a1, a2] 0 v [some v, none, a2] := jx_st2_app [] [a2] trivial
theorem jx_e3_1 {v : Value} {a0 a1 a2 : Option Value} (h : jx_nl a0) : jx_st1 [a0, a1, a2] 1 v [a0, some v, a2] := jx_st1_app [a0] [a2] h
theorem jx_f3_1 {v : Value} {a0 a1 a2 : Option Value} (h : jx_nl a0) : jx_st2 [a0, a1, a2] 1 v [a0, some v, none] := jx_st2_app [a0] [] h
theorem jx_e3_2 {v : Value} {a0 a1 a2 : Option Value} (h : jx_nl a1) : jx_st1 [a0, a1, a2] 2 v [a0, a1, some v] := jx_st1_app [a0, a1] [] h
theorem jx_e4_0 {v : Value} {a0 a1 a2 a3 : Option Value} : jx_st1 [a0, a1, a2, a3] 0 v [some v, a1, a2, a3] := jx_st1_app [] [a1, a2, a3] trivial
theorem jx_f4_0 {v : Value} {a0 a1 a2 a3 : Option Value} : jx_st2 [a0, a1, a2, a3] 0 v [some v, none, a2, a3] := jx_st2_app [] [a2, a3] trivial
theorem jx_e4_1 {v : Value} {a0 a1 a2 a3 : Option Value} (h : jx_nl a0) : jx_st1 [a0, a1, a2, a3] 1 v [a0, some v, a2, a3] := jx_st1_app [a0] [a2, a3] h
theorem jx_f4_1 {v : Value} {a0 a1 a2 a3 : Option Value} (h : jx_nl a0) : jx_st2 [a0, a1, a2, a3] 1 v [a0, some v, none, a3] := jx_st2_app [a0] [a3] h
theorem jx_e4_2 {v : Value} {a0 a1 a2 a3 : Option Value} (h : jx_nl a1) : jx_st1 [a0, a1, a2, a3] 2 v [a0, a1, some v, a3] := jx_st1_app [a0, a1] [a3] h
theorem jx_f4_2 {v : Value} {a0 a1 a2 a3 : Option Value} (h : jx_nl a1) : jx_st2 [a0, a1, a2, a3] 2 v [a0, a1, some v, none] := jx_st2_app [a0, a1] [] h
theorem jx_e4_3 {v : Value} {a0 a1 a2 a3 : Option Value} (h : jx_nl a2) : jx_st1 [a0, a1, a2, a3] 3 v [a0, a1, a2, some v] := jx_st1_app [a0, a1, a2] [] h
theorem jx_e5_0 {v : Value} {a0 a1 a2 a3 a4 : Option Value} : jx_st1 [a0, a1, a2, a3, a4] 0 v [some v, a1, a2, a3, a4] := jx_st1_app [] [a1, a2, a3, a4] trivial
theorem jx_f5_0 {v : Value} {a0 a1 a2 a3 a4 : Option Value} : jx_st2 [a0, a1, a2, a3, a4] 0 v [some v, none, a2, a3, a4] := jx_st2_app [] [a2, a3, a4] trivial
theorem jx_e5_1 {v : Value} {a0 a1 a2 a3 a4 : Option Value} (h : jx_nl a0) : jx_st1 [a0, a1, a2, a3, a4] 1 v [a0, some v, a2, a3, a4] := jx_st1_app [a0] [a2, a3, a4] h
theorem jx_f5_1 {v : Value} {a0 a1 a2 a3 a4 : Option Value} (h : jx_nl a0) : jx_st2 [a0, a1, a2, a3, a4] 1 v [a0, some v, none, a3, a4] := jx_st2_app [a0] [a3, a4] h
theorem jx_e5_2 {v : Value} {a0 a1 a2 a3 a4 : Option Value} (h : jx_nl a1) : jx_st1 [a0, a1, a2, a3, a4] 2 v [a0, a1, some v, a3, a4] := jx_st1_app [a0, a1] [a3, a4] h
theorem jx_f5_2 {v : Value} {a0 a1 a2 a3 a4 : Option Value} (h : jx_nl a1) : jx_st2 [a0, a1, a2, a3, a4] 2 v [a0, a1, some v, none, a4] := jx_st2_app [a0, a1] [a4] h
theorem jx_e5_3 {v : Value} {a0 a1 a2 a3 a4 : Option Value} (h : jx_nl a2) : jx_st1 [a0, a1, a2, a3, a4] 3 v [a0, a1, a2, some v, a4] := jx_st1_app [a0, a1, a2] [a4] h
theorem jx_f5_3 {v : Value} {a0 a1 a2 a3 a4 : Option Value} (h : jx_nl a2) : jx_st2 [a0, a1, a2, a3, a4] 3 v [a0, a1, a2, some v, none] := jx_st2_app [a0, a1, a2] [] h
theorem jx_e5_4 {v : Value} {a0 a1 a2 a3 a4 : Option Value} (h : jx_nl a3) : jx_st1 [a0, a1, a2, a3, a4] 4 v [a0, a1, a2, a3, some v] := jx_st1_app [a0, a1, a2, a3] [] h
theorem jx_e6_0 {v : Value} {a0 a1 a2 a3 a4 a5 : Option Value} : jx_st1 [a0, a1, a2, a3, a4, a5] 0 v [some v, a1, a2, a3, a4, a5] := jx_st1_app [] [a1, a2, a3, a4, a5] trivial
theorem jx_f6_0 {v : Value} {a0 a1 a2 a3 a4 a5 : Option Value} : jx_st2 [a0, a1, a2, a3, a4, a5] 0 v [some v, none, a2, a3, a4, a5] := jx_st2_app [] [a2, a3, a4, a5] trivial
theorem jx_e6_1 {v : Value} {a0 a1 a2 a3 a4 a5 : Option Value} (h : jx_nl a0) : jx_st1 [a0, a1, a2, a3, a4, a5] 1 v [a0, some v, a2, a3, a4, a5] := jx_st1_app [a0] [a2, a3, a4, a5] h
theorem jx_f6_1 {v : Value} {a0 a1 a2 a3 a4 a5 : Option Value} (h : jx_nl a0) : jx_st2 [a0, a1, a2, a3, a4, a5] 1 v [a0, some v, none, a3, a4, a5] := jx_st2_app [a0] [a3, a4, a5] h
theorem jx_e6_2 {v : Value} {a0 a1 a2 a3 a4 a5 : Option Value} (h : jx_nl a1) : jx_st1 [a0, a1, a2, a3, a4, a5] 2 v [a0, a1, some v, a3, a4, a5] := jx_st1_app [a0, a1] [a3, a4, a5] h
theorem jx_f6_2 {v : Value} {a0 a1 a2 a3 a4 a5 : Option Value} (h : jx_nl a1) : jx_st2 [a0, a1, a2, a3, a4, a5] 2 v [a0, a1, some v, none, a4, a5] := jx_st2_app [a0, a1] [a4, a5] h
theorem jx_e6_3 {v : Value} {a0 a1 a2 a3 a4 a5 : Option Value} (h : jx_nl a2) : jx_st1 [a0, a1, a2, a3, a4, a5] 3 v [a0, a1, a2, some v, a4, a5] := jx_st1_app [a0, a1, a2] [a4, a5] h
theorem jx_f6_3 {v : Value} {a0 a1 a2 a3 a4 a5 : Option Value} (h : jx_nl a2) : jx_st2 [a0, a1, a2, a3, a4, a5] 3 v [a0, a1, a2, some v, none, a5] := jx_st2_app [a0, a1, a2] [a5] h
theorem jx_e6_4 {v : Value} {a0 a1 a2 a3 a4 a5 : Option Value} (h : jx_nl a3) : jx_st1 [a0, a1, a2, a3, a4, a5] 4 v [a0, a1, a2, a3, some v, a5] := jx_st1_app [a0, a1, a2, a3] [a5] h
theorem jx_f6_4 {v : Value} {a0 a1 a2 a3 a4 a5 : Option Value} (h : jx_nl a3) : jx_st2 [a0, a1, a2, a3, a4, a5] 4 v [a0, a1, a2, a3, some v, none] := jx_st2_app [a0, a1, a2, a3] [] h
theorem jx_e6_5 {v : Value} {a0 a1 a2 a3 a4 a5 : Option Value} (h : jx_nl a4) : jx_st1 [a0, a1, a2, a3, a4, a5] 5 v [a0, a1, a2, a3, a4, some v] := jx_st1_app [a0, a1, a2, a3, a4] [] h
theorem jx_e7_0 {v : Value} {a0 a1 a2 a3 a4 a5 a6 : Option Value} : jx_st1 [a0, a1, a2, a3, a4, a5, a6] 0 v [some v, a1, a2, a3, a4, a5, a6] := jx_st1_app [] [a1, a2, a3, a4, a5, a6] trivial
theorem jx_f7_0 {v : Value} {a0 a1 a2 a3 a4 a5 a6 : Option Value} : jx_st2 [a0, a1, a2, a3, a4, a5, a6] 0 v [some v, none, a2, a3, a4, a5, a6] := jx_st2_app [] [a2, a3, a4, a5, a6] trivial
theorem jx_e7_1 {v : Value} {a0 a1 a2 a3 a4 a5 a6 : Option Value} (h : jx_nl a0) : jx_st1 [a0, a1, a2, a3, a4, a5, a6] 1 v [a0, some v, a2, a3, a4, a5, a6] := jx_st1_app [a0] [a2, a3, a4, a5, a6] h
theorem jx_f7_1 {v : Value} {a0 a1 a2 a3 a4 a5 a6 : Option Value} (h : jx_nl a0) : jx_st2 [a0, a1, a2, a3, a4, a5, a6] 1 v [a0, some v, none, a3, a4, a5, a6] := jx_st2_app [a0] [a3, a4, a5, a6] h
theorem jx_e7_2 {v : Value} {a0 a1 a2 a3 a4 a5 a6 : Option Value} (h : jx_nl a1) : jx_st1 [a0, a1, a2, a3, a4, a5, a6] 2 v [a0, a1, some v, a3, a4, a5, a6] := jx_st1_app [a0, a1] [a3, a4, a5, a6] h
theorem jx_f7_2 {v : Value} {a0 a1 a2 a3 a4 a5 a6 : Option Value} (h : jx_nl a1) : jx_st2 [a0, a1, a2, a3, a4, a5, a6] 2 v [a0, a1, some v, none, a4, a5, a6] := jx_st2_app [a0, a1] [a4, a5, a6] h
theorem jx_e7_3 {v : Value} {a0 a1 a2 a3 a4 a5 a6 : Option Value} (h : jx_nl a2) : jx_st1 [a0, a1, a2, a3, a4, a5, a6] 3 v [a0, a1, a2, some v, a4, a5, a6] := jx_st1_app [a0, a1, a2] [a4, a5, a6] h
theorem jx_f7_3 {v : Value} {a0 a1 a2 a3 a4 a5 a6 : Option Value} (h : jx_nl a2) : jx_st2 [a0, a1, a2, a3, a4, a5, a6] 3 v [a0, a1, a2, some v, none, a5, a6] := jx_st2_app [a0, a1, a2] [a5, a6] h
theorem jx_e7_4 {v : Value} {a0 a1 a2 a3 a4 a5 a6 : Option Value} (h : jx_nl a3) : jx_st1 [a0, a1, a2, a3, a4, a5, a6] 4 v [a0, a1, a2, a3, some v, a5, a6] := jx_st1_app [a0, a1, a2, a3] [a5, a6] h
theorem jx_f7_4 {v : Value} {a0 a1 a2 a3 a4 a5 a6 : Option Value} (h : jx_nl a3) : jx_st2 [a0, a1, a2, a3, a4, a5, a6] 4 v [a0, a1, a2, a3, some v, none, a6] := jx_st2_app [a0, a1, a2, a3] [a6] h
theorem jx_e7_5 {v : Value} {a0 a1 a2 a3 a4 a5 a6 : Option Value} (h : jx_nl a4) : jx_st1 [a0, a1, a2, a3, a4, a5, a6] 5 v [a0, a1, a2, a3, a4, some v, a6] := jx_st1_app [a0, a1, a2, a3, a4] [a6] h
theorem jx_f7_5 {v : Value} {a0 a1 a2 a3 a4 a5 a6 : Option Value} (h : jx_nl a4) : jx_st2 [a0, a1, a2, a3, a4, a5, a6] 5 v [a0, a1, a2, a3, a4, some v, none] := jx_st2_app [a0, a1, a2, a3, a4] [] h
theorem jx_e7_6 {v : Value} {a0 a1 a2 a3 a4 a5 a6 : Option Value} (h : jx_nl a5) : jx_st1 [a0, a1, a2, a3, a4, a5, a6] 6 v [a0, a1, a2, a3, a4, a5, some v] := jx_st1_app [a0, a1, a2, a3, a4, a5] [] h
theorem jx_e8_0 {v : Value} {a0 a1 a2 a3 a4 a5 a6 a7 : Option Value} : jx_st1 [a0, a1, a2, a3, a4, a5, a6, a7] 0 v [some v, a1, a2, a3, a4, a5, a6, a7] := jx_st1_app [] [a1, a2, a3, a4, a5, a6, a7] trivial
theorem jx_f8_0 {v : Value} {a0 a1 a2 a3 a4 a5 a6 a7 : Option Value} : jx_st2 [a0, a1, a2, a3, a4, a5, a6, a7] 0 v [some v, none, a2, a3, a4, a5, a6, a7] := jx_st2_app [] [a2, a3, a4, a5, a6, a7] trivial
theorem jx_e8_1 {v : Value} {a0 a1 a2 a3 a4 a5 a6 a7 : Option Value} (h : jx_nl a0) : jx_st1 [a0, a1, a2, a3, a4, a5, a6, a7] 1 v [a0, some v, a2, a3, a4, a5, a6, a7] := jx_st1_app [a0] [a2, a3, a4, a5, a6, a7] h
theorem jx_f8_1 {v : Value} {a0 a1 a2 a3 a4 a5 a6 a7 : Option Value} (h : jx_nl a0) : jx_st2 [a0, a1, a2, a3, a4, a5, a6, a7] 1 v [a0, some v, none, a3, a4, a5, a6, a7] := jx_st2_app [a0] [a3, a4, a5, a6, a7] h
theorem jx_e8_2 {v : Value} {a0 a1 a2 a3 a4 a5 a6 a7 : Option Value} (h : jx_nl a1) : jx_st1 [a0, a1, a2, a3, a4, a5, a6, a7] 2 v [a0, a1, some v, a3, a4, a5, a6, a7] := jx_st1_app [a0, a1] [a3, a4, a5, a6, a7] h
theorem jx_f8_2 {v : Value} {a0 a1 a2 a3 a4 a5 a6 a7 : Option Value} (h : jx_nl a1) : jx_st2 [a0, a1, a2, a3, a4, a5, a6, a7] 2 v [a0, a1, some v, none, a4, a5, a6, a7] := jx_st2_app [a0, a1] [a4, a5, a6, a7] h
theorem jx_e8_3 {v : Value} {a0 a1 a2 a3 a4 a5 a6 a7 : Option Value} (h : jx_nl a2) : jx_st1 [a0, a1, a2, a3, a4, a5, a6, a7] 3 v [a0, a1, a2, some v, a4, a5, a6, a7] := jx_st1_app [a0, a1, a2] [a4, a5, a6, a7] h
theorem jx_f8_3 {v : Value} {a0 a1 a2 a3 a4 a5 a6 a7 : Option Value} (h : jx_nl a2) : jx_st2 [a0, a1, a2, a3, a4, a5, a6, a7] 3 v [a0, a1, a2, some v, none, a5, a6, a7] := jx_st2_app [a0, a1, a2] [a5, a6, a7] h
theorem jx_e8_4 {v : Value} {a0 a1 a2 a3 a4 a5 a6 a7 : Option Value} (h : jx_nl a3) : jx_st1 [a0, a1, a2, a3, a4, a5, a6, a7] 4 v [a0, a1, a2, a3, some v, a5, a6, a7] := jx_st1_app [a0, a1, a2, a3] [a5, a6, a7] h
theorem jx_f8_4 {v : Value} {a0 a1 a2 a3 a4 a5 a6 a7 : Option Value} (h : jx_nl a3) : jx_st2 [a0, a1, a2, a3, a4, a5, a6, a7] 4 v [a0, a1, a2, a3, some v, none, a6, a7] := jx_st2_app [a0, a1, a2, a3] [a6, a7] h
theorem jx_e8_5 {v : Value} {a0 a1 a2 a3 a4 a5 a6 a7 : Option Value} (h : jx_nl a4) : jx_st1 [a0, a1, a2, a3, a4, a5, a6, a7] 5 v [a0, a1, a2, a3, a4, some v, a6, a7] := jx_st1_app [a0, a1, a2, a3, a4] [a6, a7] h
theorem jx_f8_5 {v : Value} {a0 a1 a2 a3 a4 a5 a6 a7 : Option Value} (h : jx_nl a4) : jx_st2 [a0, a1, a2, a3, a4, a5, a6, a7] 5 v [a0, a1, a2, a3, a4, some v, none, a7] := jx_st2_app [a0, a1, a2, a3, a4] [a7] h
theorem jx_e8_6 {v : Value} {a0 a1 a2 a3 a4 a5 a6 a7 : Option Value} (h : jx_nl a5) : jx_st1 [a0, a1, a2, a3, a4, a5, a6, a7] 6 v [a0, a1, a2, a3, a4, a5, some v, a7] := jx_st1_app [a0, a1, a2, a3, a4, a5] [a7] h
theorem jx_f8_6 {v : Value} {a0 a1 a2 a3 a4 a5 a6 a7 : Option Value} (h : jx_nl a5) : jx_st2 [a0, a1, a2, a3, a4, a5, a6, a7] 6 v [a0, a1, a2, a3, a4, a5, some v, none] := jx_st2_app [a0, a1, a2, a3, a4, a5] [] h
theorem jx_e8_7 {v : Value} {a0 a1 a2 a3 a4 a5 a6 a7 : Option Value} (h : jx_nl a6) : jx_st1 [a0, a1, a2, a3, a4, a5, a6, a7] 7 v [a0, a1, a2, a3, a4, a5, a6, some v] := jx_st1_app [a0, a1, a2, a3, a4, a5, a6] [] h
theorem jx_e9_0 {v : Value} {a0 a1 a2 a3 a4 a5 a6 a7 a8 : Option Value} : jx_st1 [a0, a1, a2, a3, a4, a5, a6, a7, a8] 0 v [some v, a1, a2, a3, a4, a5, a6, a7, a8] := jx_st1_app [] [a1, a2, a3, a4, a5, a6, a7, a8] trivial
theorem jx_f9_0 {v : Value} {a0 a1 a2 a3 a4 a5 a6 a7 a8 : Option Value} : jx_st2 [a0, a1, a2, a3, a4, a5, a6, a7, a8] 0 v [some v, none, a2, a3, a4, a5, a6, a7, a8] := jx_st2_app [] [a2, a3, a4, a5, a6, a7, a8] trivial
theorem jx_e9_1 {v : Value} {a0 a1 a2 a3 a4 a5 a6 a7 a8 : Option Value} (h : jx_nl a0) : jx_st1 [a0, a1, a2, a3, a4, a5, a6, a7, a8] 1 v [a0, some v, a2, a3, a4, a5, a6, a7, a8] := jx_st1_app [a0] [a2, a3, a4, a5, a6, a7, a8] h
theorem jx_f9_1 {v : Value} {a0 a1 a2 a3 a4 a5 a6 a7 a8 : Option Value} (h : jx_nl a0) : jx_st2 [a0, a1, a2, a3, a4, a5, a6, a7, a8] 1 v [a0, some v, none, a3, a4, a5, a6, a7, a8] := jx_st2_app [a0] [a3, a4, a5, a6, a7, a8] h
theorem jx_e9_2 {v : Value} {a0 a1 a2 a3 a4 a5 a6 a7 a8 : Option Value} (h : jx_nl a1) : jx_st1 [a0, a1, a2, a3, a4, a5, a6, a7, a8] 2 v [a0, a1, some v, a3, a4, a5, a6, a7, a8] := jx_st1_app [a0, a1] [a3, a4, a5, a6, a7, a8] h
theorem jx_f9_2 {v : Value} {a0 a1 a2 a3 a4 a5 a6 a7 a8 : Option Value} (h : jx_nl a1) : jx_st2 [a0, a1, a2, a3, a4, a5, a6, a7, a8] 2 v [a0, a1, some v, none, a4, a5, a6, a7, a8] := jx_st2_app [a0, a1] [a4, a5, a6, a7, a8] h
theorem jx_e9_3 {v : Value} {a0 a1 a2 a3 a4 a5 a6 a7 a8 : Option Value} (h : jx_nl a2) : jx_st1 [a0, a1, a2, a3, a4, a5, a6, a7, a8] 3 v [a0, a1, a2, some v, a4, a5, a6, a7, a8] := jx_st1_app [a0, a1, a2] [a4, a5, a6, a7, a8] h
theorem jx_f9_3 {v : Value} {a0 a1 a2 a3 a4 a5 a6 a7 a8 : Option Value} (h : jx_nl a2) : jx_st2 [a0, a1, a2, a3, a4, a5, a6, a7, a8] 3 v [a0, a1, a2, some v, none, a5, a6, a7, a8] := jx_st2_app [a0, a1, a2] [a5, a6, a7, a8] h
theorem jx_e9_4 {v : Value} {a0 a1 a2 a3 a4 a5 a6 a7 a8 : Option Value} (h : jx_nl a3) : jx_st1 [a0, a1, a2, a3, a4, a5, a6, a7, a8] 4 v [a0, a1, a2, a3, some v, a5, a6, a7, a8] := jx_st1_app [a0, a1, a2, a3] [a5, a6, a7, a8] h
theorem jx_f9_4 {v : Value} {a0 a1 a2 a3 a4 a5 a6 a7 a8 : Option Value} (h : jx_nl a3) : jx_st2 [a0, a1, a2, a3, a4, a5, a6, a7, a8] 4 v [a0, a1, a2, a3, some v, none, a6, a7, a8] := jx_st2_app [a0, a1, a2, a3] [a6, a7, a8] h
theorem jx_e9_5 {v : Value} {a0 a1 a2 a3 a4 a5 a6 a7 a8 : Option Value} (h : jx_nl a4) : jx_st1 [a0, a1, a2, a3, a4, a5, a6, a7, a8] 5 v [a0, a1, a2, a3, a4, some v, a6, a7, a8] := jx_st1_app [a0, a1, a2, a3, a4] [a6, a7, a8] h
theorem jx_f9_5 {v : Value} {a0 a1 a2 a3 a4 a5 a6 a7 a8 : Option Value} (h : jx_nl a4) : jx_st2 [a0, a1, a2, a3, a4, a5, a6, a7, a8] 5 v [a0, a1, a2, a3, a4, some v, none, a7, a8] := jx_st2_app [a0, a1, a2, a3, a4] [a7, a8] h
theorem jx_e9_6 {v : Value} {a0 a1 a2 a3 a4 a5 a6 a7 a8 : Option Value} (h : jx_nl a5) : jx_st1 [a0, a1, a2, a3, a4, a5, a6, a7, a8] 6 v [a0, a1, a2, a3, a4, a5, some v, a7, a8] := jx_st1_app [a0, a1, a2, a3, a4, a5] [a7, a8] h
theorem jx_f9_6 {v : Value} {a0 a1 a2 a3 a4 a5 a6 a7 a8 : Option Value} (h : jx_nl a5) : jx_st2 [a0, a1, a2, a3, a4, a5, a6, a7, a8] 6 v [a0, a1, a2, a3, a4, a5, some v, none, a8] := jx_st2_app [a0, a1, a2, a3, a4, a5] [a8] h
theorem jx_e9_7 {v : Value} {a0 a1 a2 a3 a4 a5 a6 a7 a8 : Option Value} (h : jx_nl a6) : jx_st1 [a0, a1, a2, a3, a4, a5, a6, a7, a8] 7 v [a0, a1, a2, a3, a4, a5, a6, some v, a8] := jx_st1_app [a0, a1, a2, a3, a4, a5, a6] [a8] h
theorem jx_f9_7 {v : Value} {a0 a1 a2 a3 a4 a5 a6 a7 a8 : Option Value} (h : jx_nl a6) : jx_st2 [a0, a1, a2, a3, a4, a5, a6, a7, a8] 7 v [a0, a1, a2, a3, a4, a5, a6, some v, none] := jx_st2_app [a0, a1, a2, a3, a4, a5, a6] [] h
theorem jx_e9_8 {v : Value} {a0 a1 a2 a3 a4 a5 a6 a7 a8 : Option Value} (h : jx_nl a7) : jx_st1 [a0, a1, a2, a3, a4, a5, a6, a7, a8] 8 v [a0, a1, a2, a3, a4, a5, a6, a7, some v] := jx_st1_app [a0, a1, a2, a3, a4, a5, a6, a7] [] h
theorem jx_e10_0 {v : Value} {a0 a1 a2 a3 a4 a5 a6 a7 a8 a9 : Option Value} : jx_st1 [a0, a1, a2, a3, a4, a5, a6, a7, a8, a9] 0 v [some v, a1, a2, a3, a4, a5, a6, a7, a8, a9] := jx_st1_app [] [a1, a2, a3, a4, a5, a6, a7, a8, a9] trivial
theorem jx_f10_0 {v : Value} {a0 a1 a2 a3 a4 a5 a6 a7 a8 a9 : Option Value} : jx_st2 [a0, a1, a2, a3, a4, a5, a6, a7, a8, a9] 0 v [some v, none, a2, a3, a4, a5, a6, a7, a8, a9] := jx_st2_app [] [a2, a3, a4, a5, a6, a7, a8, a9] trivial
theorem jx_e10_1 {v : Value} {a0 a1 a2 a3 a4 a5 a6 a7 a8 a9 : Option Value} (h : jx_nl a0) : jx_st1 [a0, a1, a2, a3, a4, a5, a6, a7, a8, a9] 1 v [a0, some v, a2, a3, a4, a5, a6, a7, a8, a9] := jx_st1_app [a0] [a2, a3, a4, a5, a6, a7, a8, a9] h
theorem jx_f10_1 {v : Value} {a0 a1 a2 a3 a4 a5 a6 a7 a8 a9 : Option Value} (h : jx_nl a0) : jx_st2 [a0, a1, a2, a3, a4, a5, a6, a7, a8, a9] 1 v [a0, some v, none, a3, a4, a5, a6, a7, a8, a9] := jx_st2_app [a0] [a3, a4, a5, a6, a7, a8, a9] h
theorem jx_e10_2 {v : Value} {a0 a1 a2 a3 a4 a5 a6 a7 a8 a9 : Option Value} (h : jx_nl a1) : jx_st1 [a0, a1, a2, a3, a4, a5, a6, a7, a8, a9] 2 v [a0, a1, some v, a3, a4, a5, a6, a7, a8, a9] := jx_st1_app [a0, a1] [a3, a4, a5, a6, a7, a8, a9] h
theorem jx_f10_2 {v : Value} {a0 a1 a2 a3 a4 a5 a6 a7 a8 a9 : Option Value} (h : jx_nl a1) : jx_st2 [a0, a1, a2, a3, a4, a5, a6, a7, a8, a9] 2 v [a0, a1, some v, none, a4, a5, a6, a7, a8, a9] := jx_st2_app [a0, a1] [a4, a5, a6, a7, a8, a9] h
theorem jx_e10_3 {v : Value} {a0 a1 a2 a3 a4 a5 a6 a7 a8 a9 : Option Value} (h : jx_nl a2) : jx_st1 [a0, a1, a2, a3, a4, a5, a6, a7, a8, a9] 3 v [a0, a1, a2, some v, a4, a5, a6, a7, a8, a9] := jx_st1_app [a0, a1, a2] [a4, a5, a6, a7, a8, a9] h
theorem jx_f10_3 {v : Value} {a0 a1 a2 a3 a4 a5 a6 a7 a8 a9 : Option Value} (h : jx_nl a2) : jx_st2 [a0, a1, a2, a3, a4, a5, a6, a7, a8, a9] 3 v [a0, a1, a2, some v, none, a5, a6, a7, a8, a9] := jx_st2_app [a0, a1, a2] [a5, a6, a7, a8, a9] h
theorem jx_e10_4 {v : Value} {a0 a1 a2 a3 a4 a5 a6 a7 a8 a9 : Option Value} (h : jx_nl a3) : jx_st1 [a0, a1, a2, a3, a4, a5, a6, a7, a8, a9] 4 v [a0, a1, a2, a3, some v, a5, a6, a7, a8, a9] := jx_st1_app [a0, a1, a2, a3] [a5, a6, a7, a8, a9] h
theorem jx_f10_4 {v : Value} {a0 a1 a2 a3 a4 a5 a6 a7 a8 a9 : Option Value} (h : jx_nl a3) : jx_st2 [a0, a1, a2, a3, a4, a5, a6, a7, a8, a9] 4 v [a0, a1, a2, a3, some v, none, a6, a7, a8, a9] := jx_st2_app [a0, a1, a2, a3] [a6, a7, a8, a9] h
theorem jx_e10_5 {v : Value} {a0 a1 a2 a3 a4 a5 a6 a7 a8 a9 : Option Value} (h : jx_nl a4) : jx_st1 [a0, a1, a2, a3, a4, a5, a6, a7, a8, a9] 5 v [a0, a1, a2, a3, a4, some v, a6, a7, a8, a9] := jx_st1_app [a0, a1, a2, a3, a4] [a6, a7, a8, a9] h
theorem jx_f10_5 {v : Value} {a0 a1 a2 a3 a4 a5 a6 a7 a8 a9 : Option Value} (h : jx_nl a4) : jx_st2 [a0, a1, a2, a3, a4, a5, a6, a7, a8, a9] 5 v [a0, a1, a2, a3, a4, some v, none, a7, a8, a9] := jx_st2_app [a0, a1, a2, a3, a4] [a7, a8, a9] h
theorem jx_e10_6 {v : Value} {a0 a1 a2 a3 a4 a5 a6 a7 a8 a9 : Option Value} (h : jx_nl a5) : jx_st1 [a0, a1, a2, a3, a4, a5, a6, a7, a8, a9] 6 v [a0, a1, a2, a3, a4, a5, some v, a7, a8, a9] := jx_st1_app [a0, a1, a2, a3, a4, a5] [a7, a8, a9] h
theorem jx_f10_6 {v : Value} {a0 a1 a2 a3 a4 a5 a6 a7 a8 a9 : Option Value} (h : jx_nl a5) : jx_st2 [a0, a1, a2, a3, a4, a5, a6, a7, a8, a9] 6 v [a0, a1, a2, a3, a4, a5, some v, none, a8, a9] := jx_st2_app [a0, a1, a2, a3, a4, a5] [a8, a9] h
theorem jx_e10_7 {v : Value} {a0 a1 a2 a3 a4 a5 a6 a7 a8 a9 : Option Value} (h : jx_nl a6) : jx_st1 [a0, a1, a2, a3, a4, a5, a6, a7, a8, a9] 7 v [a0, a1, a2, a3, a4, a5, a6, some v, a8, a9] := jx_st1_app [a0, a1, a2, a3, a4, a5, a6] [a8, a9] h
theorem jx_f10_7 {v : Value} {a0 a1 a2 a3 a4 a5 a6 a7 a8 a9 : Option Value} (h : jx_nl a6) : jx_st2 [a0, a1, a2, a3, a4, a5, a6, a7, a8, a9] 7 v [a0, a1, a2, a3, a4, a5, a6, some v, none, a9] := jx_st2_app [a0, a1, a2, a3, a4, a5, a6] [a9] h
theorem jx_e10_8 {v : Value} {a0 a1 a2 a3 a4 a5 a6 a7 a8 a9 : Option Value} (h : jx_nl a7) : jx_st1 [a0, a1, a2, a3, a4, a5, a6, a7, a8, a9] 8 v [a0, a1, a2, a3, a4, a5, a6, a7, some v, a9] := jx_st1_app [a0, a1, a2, a3, a4, a5, a6, a7] [a9] h
theorem jx_f10_8 {v : Value} {a0 a1 a2 a3 a4 a5 a6 a7 a8 a9 : Option Value} (h : jx_nl a7) : jx_st2 [a0, a1, a2, a3, a4, a5, a6, a7, a8, a9] 8 v [a0, a1, a2, a3, a4, a5, a6, a7, some v, none] := jx_st2_app [a0, a1, a2, a3, a4, a5, a6, a7] [] h
theorem jx_e10_9 {v : Value} {a0 a1 a2 a3 a4 a5 a6 a7 a8 a9 : Option Value} (h : jx_nl a8) : jx_st1 [a0, a1, a2, a3, a4, a5, a6, a7, a8, a9] 9 v [a0, a1, a2, a3, a4, a5, a6, a7, a8, some v] := jx_st1_app [a0, a1, a2, a3, a4, a5, a6, a7, a8] [] h
theorem jx_e11_0 {v : Value} {a0 a1 a2 a3 a4 a5 a6 a7 a8 a9 a10 : Option Value} : jx_st1 [a0, a1, a2, a3, a4, a5, a6, a7, a8, a9, a10] 0 v [some v, a1, a2, a3, a4, a5, a6, a7, a8, a9, a10] := jx_st1_app [] [a1, a2, a3, a4, a5, a6, a7, a8, a9, a10] trivial
theorem jx_f11_0 {v : Value} {a0 a1 a2 a3 a4 a5 a6 a7 a8 a9 a10 : Option Value} : jx_st2 [a0, a1, a2, a3, a4, a5, a6, a7, a8, a9, a10] 0 v [some v, none, a2, a3, a4, a5, a6, a7, a8, a9, a10] := jx_st2_app [] [a2, a3, a4, a5, a6, a7, a8, a9, a10] trivial
theorem jx_e11_1 {v : Value} {a0 a1 a2 a3 a4 a5 a6 a7 a8 a9 a10 : Option Value} (h : jx_nl a0) : jx_st1 [a0, a1, a2, a3, a4, a5, a6, a7, a8, a9, a10] 1 v [a0, some v, a2, a3, a4, a5, a6, a7, a8, a9, a10] := jx_st1_app [a0] [a2, a3, a4, a5, a6, a7, a8, a9, a10] h
theorem jx_f11_1 {v : Value} {a0 a1 a2 a3 a4 a5 a6 a7 a8 a9 a10 : Option Value} (h : jx_nl a0) : jx_st2 [a0, a1, a2, a3, a4, a5, a6, a7, a8, a9, a10] 1 v [a0, some v, none, a3, a4, a5, a6, a7, a8, a9, a10] := jx_st2_app [a0] [a3, a4, a5, a6, a7, a8, a9, a10] h
theorem jx_e11_2 {v : Value} {a0 a1 a2 a3 a4 a5 a6 a7 a8 a9 a10 : Option Value} (h : jx_nl a1) : jx_st1 [a0, a1, a2, a3, a4, a5, a6, a7, a8, a9, a10] 2 v [a0, a1, some v, a3, a4, a5, a6, a7, a8, a9, a10] := jx_st1_app [a0, a1] [a3, a4, a5, a6, a7, a8, a9, a10] h
theorem jx_f11_2 {v : Value} {a0 a1 a2 a3 a4 a5 a6 a7 a8 a9 a10 : Option Value} (h : jx_nl a1) : jx_st2 [a0, a1, a2, a3, a4, a5, a6, a7, a8, a9, a10] 2 v [a0, a1, some v, none, a4, a5, a6, a7, a8, a9, a10] := jx_st2_app [a0, a1] [a4, a5, a6, a7, a8, a9, a10] h
theorem jx_e11_3 {v : Value} {a0 a1 a2 a3 a4 a5 a6 a7 a8 a9 a10 : Option Value} (h : jx_nl a2) : jx_st1 [a0, a1, a2, a3, a4, a5, a6, a7, a8, a9, a10] 3 v [a0, a1, a2, some v, a4, a5, a6, a7, a8, a9, a10] := jx_st1_app [a0, a1, a2] [a4, a5, a6, a7, a8, a9, a10] h
theorem jx_f11_3 {v : Value} {a0 a1 a2 a3 a4 a5 a6 a7 a8 a9 a10 : Option Value} (h : jx_nl a2) : jx_st2 [a0, a1, a2, a3, a4, a5, a6, a7, a8, a9, a10] 3 v [a0, a1, a2, some v, none, a5, a6, a7, a8, a9, a10] := jx_st2_app [a0, a1, a2] [a5, a6, a7, a8, a9, a10] h
theorem jx_e11_4 {v : Value} {a0 a1 a2 a3 a4 a5 a6 a7 a8 a9 a10 : Option Value} (h : jx_nl a3) : jx_st1 [a0, a1, a2, a3, a4, a5, a6, a7, a8, a9, a10] 4 v [a0, a1, a2, a3, some v, a5, a6, a7, a8, a9, a10] := jx_st1_app [a0, a1, a2, a3] [a5, a6, a7, a8, a9, a10] h
theorem jx_f11_4 {v : Value} {a0 a1 a2 a3 a4 a5 a6 a7 a8 a9 a10 : Option Value} (h : jx_nl a3) : jx_st2 [a0, a1, a2, a3, a4, a5, a6, a7, a8, a9, a10] 4 v [a0, a1, a2, a3, some v, none, a6, a7, a8, a9, a10] := jx_st2_app [a0, a1, a2, a3] [a6, a7, a8, a9, a10] h
theorem jx_e11_5 {v : Value} {a0 a1 a2 a3 a4 a5 a6 a7 a8 a9 a10 : Option Value} (h : jx_nl a4) : jx_st1 [a0, a1, a2, a3, a4, a5, a6, a7, a8, a9, a10] 5 v [a0, a1, a2, a3, a4, some v, a6, a7, a8, a9, a10] := jx_st1_app [a0, a1, a2, a3, a4] [a6, a7, a8, a9, a10] h
theorem jx_f11_5 {v : Value} {a0 a1 a2 a3 a4 a5 a6 a7 a8 a9 a10 : Option Value} (h : jx_nl a4) : jx_st2 [a0, a1, a2, a3, a4, a5, a6, a7, a8, a9, a10] 5 v [a0, a1, a2, a3, a4, some v, none, a7, a8, a9, a10] := jx_st2_app [a0, a1, a2, a3, a4] [a7, a8, a9, a10] h
theorem jx_e11_6 {v : Value} {a0 a1 a2 a3 a4 a5 a6 a7 a8 a9 a10 : Option Value} (h : jx_nl a5) : jx_st1 [a0, a1, a2, a3, a4, a5, a6, a7, a8, a9, a10] 6 v [a0, a1, a2, a3, a4, a5, some v, a7, a8, a9, a10] := jx_st1_app [a0, a1, a2, a3, a4, a5] [a7, a8, a9, a10] h
theorem jx_f11_6 {v : Value} {a0 a1 a2 a3 a4 a5 a6 a7 a8 a9 a10 : Option Value} (h : jx_nl a5) : jx_st2 [a0, a1, a2, a3, a4, a5, a6, a7, a8, a9, a10] 6 v [a0, a1, a2, a3, a4, a5, some v, none, a8, a9, a10] := jx_st2_app [a0, a1, a2, a3, a4, a5] [a8, a9, a10] h
theorem jx_e11_7 {v : Value} {a0 a1 a2 a3 a4 a5 a6 a7 a8 a9 a10 : Option Value} (h : jx_nl a6) : jx_st1 [a0, a1, a2, a3, a4, a5, a6, a7, a8, a9, a10] 7 v [a0, a1, a2, a3, a4, a5, a6, some v, a8, a9, a10] := jx_st1_app [a0, a1, a2, a3, a4, a5, a6] [a8, a9, a10] h
theorem jx_f11_7 {v : Value} {a0 a1 a2 a3 a4 a5 a6 a7 a8 a9 a10 : Option Value} (h : jx_nl a6) : jx_st2 [a0, a1, a2, a3, a4, a5, a6, a7, a8, a9, a10] 7 v [a0, a1, a2, a3, a4, a5, a6, some v, none, a9, a10] := jx_st2_app [a0, a1, a2, a3, a4, a5, a6] [a9, a10] h
theorem jx_e11_8 {v : Value} {a0 a1 a2 a3 a4 a5 a6 a7 a8 a9 a10 : Option Value} (h : jx_nl a7) : jx_st1 [a0, a1, a2, a3, a4, a5, a6, a7, a8, a9, a10] 8 v [a0, a1, a2, a3, a4, a5, a6, a7, some v, a9, a10] := jx_st1_app [a0, a1, a2, a3, a4, a5, a6, a7] [a9, a10] h
theorem jx_f11_8 {v : Value} {a0 a1 a2 a3 a4 a5 a6 a7 a8 a9 a10 : Option Value} (h : jx_nl a7) : jx_st2 [a0, a1, a2, a3, a4, a5, a6, a7, a8, a9, a10] 8 v [a0, a1, a2, a3, a4, a5, a6, a7, some v, none, a10] := jx_st2_app [a0, a1, a2, a3, a4, a5, a6, a7] [a10] h
theorem jx_e11_9 {v : Value} {a0 a1 a2 a3 a4 a5 a6 a7 a8 a9 a10 : Option Value} (h : jx_nl a8) : jx_st1 [a0, a1, a2, a3, a4, a5, a6, a7, a8, a9, a10] 9 v [a0, a1, a2, a3, a4, a5, a6, a7, a8, some v, a10] := jx_st1_app [a0, a1, a2, a3, a4, a5, a6, a7, a8] [a10] h
theorem jx_f11_9 {v : Value} {a0 a1 a2 a3 a4 a5 a6 a7 a8 a9 a10 : Option Value} (h : jx_nl a8) : jx_st2 [a0, a1, a2, a3, a4, a5, a6, a7, a8, a9, a10] 9 v [a0, a1, a2, a3, a4, a5, a6, a7, a8, some v, none] := jx_st2_app [a0, a1, a2, a3, a4, a5, a6, a7, a8] [] h
theorem jx_e11_10 {v : Value} {a0 a1 a2 a3 a4 a5 a6 a7 a8 a9 a10 : Option Value} (h : jx_nl a9) : jx_st1 [a0, a1, a2, a3, a4, a5, a6, a7, a8, a9, a10] 10 v [a0, a1, a2, a3, a4, a5, a6, a7, a8, a9, some v] := jx_st1_app [a0, a1, a2, a3, a4, a5, a6, a7, a8, a9] [] h
theorem jx_e12_0 {v : Value} {a0 a1 a2 a3 a4 a5 a6 a7 a8 a9 a10 a11 : Option Value} : jx_st1 [a0, a1, a2, a3, a4, a5, a6, a7, a8, a9, a10, a11] 0 v [some v, a1, a2, a3, a4, a5, a6, a7, a8, a9, a10, a11] := jx_st1_app [] [a1, a2, a3, a4, a5, a6, a7, a8, a9, a10, a11] trivial
theorem jx_f12_0 {v : Value} {a0 a1 a2 a3 a4 a5 a6 a7 a8 a9 a10 a11 : Option Value} : jx_st2 [a0, a1, a2, a3, a4, a5, a6, a7, a8, a9, a10, a11] 0 v [some v, none, a2, a3, a4, a5, a6, a7, a8, a9, a10, a11] := jx_st2_app [] [a2, a3, a4, a5, a6, a7, a8, a9, a10, a11] trivial
theorem jx_e12_1 {v : Value} {a0 a1 a2 a3 a4 a5 a6 a7 a8 a9 a10 a11 : Option Value} (h : jx_nl a0) : jx_st1 [a0, a1, a2, a3, a4, a5, a6, a7, a8, a9, a10, a11] 1 v [a0, some v, a2, a3, a4, a5, a6, a7, a8, a9, a10, a11] := jx_st1_app [a0] [a2, a3, a4, a5, a6, a7, a8, a9, a10, a11] h
theorem jx_f12_1 {v : Value} {a0 a1 a2 a3 a4 a5 a6 a7 a8 a9 a10 a11 : Option Value} (h : jx_nl a0) : jx_st2 [a0, a1, a2, a3, a4, a5, a6, a7, a8, a9, a10, a11] 1 v [a0, some v, none, a3, a4, a5, a6, a7, a8, a9, a10, a11] := jx_st2_app [a0] [a3, a4, a5, a6, a7, a8, a9, a10, a11] h
theorem jx_e12_2 {v : Value} {a0 a1 a2 a3 a4 a5 a6 a7 a8 a9 a10 a11 : Option Value} (h : jx_nl a1) : jx_st1 [a0, a1, a2, a3, a4, a5, a6, a7, a8, a9, a10, a11] 2 v [a0, a1, some v, a3, a4, a5, a6, a7, a8, a9, a10, a11] := jx_st1_app [a0, a1] [a3, a4, a5, a6, a7, a8, a9, a10, a11] h
theorem jx_f12_2 {v : Value} {a0 a1 a2 a3 a4 a5 a6 a7 a8 a9 a10 a11 : Option Value} (h : jx_nl a1) : jx_st2 [a0, a1, a2, a3, a4, a5, a6, a7, a8, a9, a10, a11] 2 v [a0, a1, some v, none, a4, a5, a6, a7, a8, a9, a10, a11] := jx_st2_app [a0, a1] [a4, a5, a6, a7, a8, a9, a10, a11] h
theorem jx_e12_3 {v : Value} {a0 a1 a2 a3 a4 a5 a6 a7 a8 a9 a10 a11 : Option Value} (h : jx_nl a2) : jx_st1 [a0, a1, a2, a3, a4, a5, a6, a7, a8, a9, a10, a11] 3 v [a0, a1, a2, some v, a4, a5, a6, a7, a8, a9, a10, a11] := jx_st1_app [a0, a1, a2] [a4, a5, a6, a7, a8, a9, a10, a11] h
theorem jx_f12_3 {v : Value} {a0 a1 a2 a3 a4 a5 a6 a7 a8 a9 a10 a11 : Option Value} (h : jx_nl a2) : jx_st2 [a0, a1, a2, a3, a4, a5, a6, a7, a8, a9, a10, a11] 3 v [a0, a1, a2, some v, none, a5, a6, a7, a8, a9, a10, a11] := jx_st2_app [a0, a1, a2] [a5, a6, a7, a8, a9, a10, a11] h
theorem jx_e12_4 {v : Value} {a0 a1 a2 a3 a4 a5 a6 a7 a8 a9 a10 a11 : Option Value} (h : jx_nl a3) : jx_st1 [a0, a1, a2, a3, a4, a5, a6, a7, a8, a9, a10, a11] 4 v [a0, a1, a2, a3, some v, a5, a6, a7, a8, a9, a10, a11] := jx_st1_app [a0, a1, a2, a3] [a5, a6, a7, a8, a9, a10, a11] h
theorem jx_f12_4 {v : Value} {a0 a1 a2 a3 a4 a5 a6 a7 a8 a9 a10 a11 : Option Value} (h : jx_nl a3) : jx_st2 [a0, a1, a2, a3, a4, a5, a6, a7, a8, a9, a10, a11] 4 v [a0, a1, a2, a3, some v, none, a6, a7, a8, a9, a10, a11] := jx_st2_app [a0, a1, a2, a3] [a6, a7, a8, a9, a10, a11] h
theorem jx_e12_5 {v : Value} {a0 a1 a2 a3 a4 a5 a6 a7 a8 a9 a10 a11 : Option Value} (h : jx_nl a4) : jx_st1 [a0, a1, a2, a3, a4, a5, a6, a7, a8, a9, a10, a11] 5 v [a0, a1, a2, a3, a4, some v, a6, a7, a8, a9, a10, a11] := jx_st1_app [a0, a1, a2, a3, a4] [a6, a7, a8, a9, a10, a11] h
theorem jx_f12_5 {v : Value} {a0 a1 a2 a3 a4 a5 a6 a7 a8 a9 a10 a11 : Option Value} (h : jx_nl a4) : jx_st2 [a0, a1, a2, a3, a4, a5, a6, a7, a8, a9, a10, a11] 5 v [a0, a1, a2, a3, a4, some v, none, a7, a8, a9, a10, a11] := jx_st2_app [a0, a1, a2, a3, a4] [a7, a8, a9, a10, a11] h
theorem jx_e12_6 {v : Value} {a0 a1 a2 a3 a4 a5 a6 a7 a8 a9 a10 a11 : Option Value} (h : jx_nl a5) : jx_st1 [a0, a1, a2, a3, a4, a5, a6, a7, a8, a9, a10, a11] 6 v [a0, a1, a2, a3, a4, a5, some v, a7, a8, a9, a10, a11] := jx_st1_app [a0, a1, a2, a3, a4, a5] [a7, a8, a9, a10, a11] h
theorem jx_f12_6 {v : Value} {a0 a1 a2 a3 a4 a5 a6 a7 a8 a9 a10 a11 : Option Value} (h : jx_nl a5) : jx_st2 [a0, a1, a2, a3, a4, a5, a6, a7, a8, a9, a10, a11] 6 v [a0, a1, a2, a3, a4, a5, some v, none, a8, a9, a10, a11] := jx_st2_app [a0, a1, a2, a3, a4, a5] [a8, a9, a10, a11] h
theorem jx_e12_7 {v : Value} {a0 a1 a2 a3 a4 a5 a6 a7 a8 a9 a10 a11 : Option Value} (h : jx_nl a6) : jx_st1 [a0, a1, a2, a3, a4, a5, a6, a7, a8, a9, a10, a11] 7 v [a0, a1, a2, a3, a4, a5, a6, some v, a8, a9, a10, a11] := jx_st1_app [a0, a1, a2, a3, a4, a5, a6] [a8, a9, a10, a11] h
theorem jx_f12_7 {v : Value} {a0 a1 a2 a3 a4 a5 a6 a7 a8 a9 a10 a11 : Option Value} (h : jx_nl a6) : jx_st2 [a0, a1, a2, a3, a4, a5, a6, a7, a8, a9, a10, a11] 7 v [a0, a1, a2, a3, a4, a5, a6, some v, none, a9, a10, a11] := jx_st2_app [a0, a1, a2, a3, a4, a5, a6] [a9, a10, a11] h
theorem jx_e12_8 {v : Value} {a0 a1 a2 a3 a4 a5 a6 a7 a8 a9 a10 a11 : Option Value} (h : jx_nl a7) : jx_st1 [a0, a1, a2, a3, a4, a5, a6, a7, a8, a9, a10, a11] 8 v [a0, a1, a2, a3, a4, a5, a6, a7, some v, a9, a10, a11] := jx_st1_app [a0, a1, a2, a3, a4, a5, a6, a7] [a9, a10, a11] h
theorem jx_f12_8 {v : Value} {a0 a1 a2 a3 a4 a5 a6 a7 a8 a9 a10 a11 : Option Value} (h : jx_nl a7) : jx_st2 [a0, a1, a2, a3, a4, a5, a6, a7, a8, a9, a10, a11] 8 v [a0, a1, a2, a3, a4, a5, a6, a7, some v, none, a10, a11] := jx_st2_app [a0, a1, a2, a3, a4, a5, a6, a7] [a10, a11] h
theorem jx_e12_9 {v : Value} {a0 a1 a2 a3 a4 a5 a6 a7 a8 a9 a10 a11 : Option Value} (h : jx_nl a8) : jx_st1 [a0, a1, a2, a3, a4, a5, a6, a7, a8, a9, a10, a11] 9 v [a0, a1, a2, a3, a4, a5, a6, a7, a8, some v, a10, a11] := jx_st1_app [a0, a1, a2, a3, a4, a5, a6, a7, a8] [a10, a11] h
theorem jx_f12_9 {v : Value} {a0 a1 a2 a3 a4 a5 a6 a7 a8 a9 a10 a11 : Option Value} (h : jx_nl a8) : jx_st2 [a0, a1, a2, a3, a4, a5, a6, a7, a8, a9, a10, a11] 9 v [a0, a1, a2, a3, a4, a5, a6, a7, a8, some v, none, a11] := jx_st2_app [a0, a1, a2, a3, a4, a5, a6, a7, a8] [a11] h
theorem jx_e12_10 {v : Value} {a0 a1 a2 a3 a4 a5 a6 a7 a8 a9 a10 a11 : Option Value} (h : jx_nl a9) : jx_st1 [a0, a1, a2, a3, a4, a5, a6, a7, a8, a9, a10, a11] 10 v [a0, a1, a2, a3, a4, a5, a6, a7, a8, a9, some v, a11] := jx_st1_app [a0, a1, a2, a3, a4, a5, a6, a7, a8, a9] [a11] h
theorem jx_f12_10 {v : Value} {a0 a1 a2 a3 a4 a5 a6 a7 a8 a9 a10 a11 : Option Value} (h : jx_nl a9) : jx_st2 [a0, a1, a2, a3, a4, a5, a6, a7, a8, a9, a10, a11] 10 v [a0, a1, a2, a3, a4, a5, a6, a7, a8, a9, some v, none] := jx_st2_app [a0, a1, a2, a3, a4, a5, a6, a7, a8, a9] [] h
theorem jx_e12_11 {v : Value} {a0 a1 a2 a3 a4 a5 a6 a7 a8 a9 a10 a11 : Option Value} (h : jx_nl a10) : jx_st1 [a0, a1, a2, a3, a4, a5, a6, a7, a8, a9, a10, a11] 11 v [a0, a1, a2, a3, a4, a5, a6, a7, a8, a9, a10, some v] := jx_st1_app [a0, a1, a2, a3, a4, a5, a6, a7, a8, a9, a10] [] h
theorem jx_e13_0 {v : Value} {a0 a1 a2 a3 a4 a5 a6 a7 a8 a9 a10 a11 a12 : Option Value} : jx_st1 [a0, a1, a2, a3, a4, a5, a6, a7, a8, a9, a10, a11, a12] 0 v [some v, a1, a2, a3, a4, a5, a6, a7, a8, a9, a10, a11, a12] := jx_st1_app [] [a1, a2, a3, a4, a5, a6, a7, a8, a9, a10, a11, a12] trivial
theorem jx_f13_0 {v : Value} {a0 a1 a2 a3 a4 a5 a6 a7 a8 a9 a10 a11 a12 : Option Value} : jx_st2 [a0, a1, a2, a3, a4, a5, a6, a7, a8, a9, a10, a11, a12] 0 v [some v, none, a2, a3, a4, a5, a6, a7, a8, a9, a10, a11, a12] := jx_st2_app [] [a2, a3, a4, a5, a6, a7, a8, a9, a10, a11, a12] trivial
theorem jx_e13_1 {v : Value} {a0 a1 a2 a3 a4 a5 a6 a7 a8 a9 a10 a11 a12 : Option Value} (h : jx_nl a0) : jx_st1 [a0, a1, a2, a3, a4, a5, a6, a7, a8, a9, a10, a11, a12] 1 v [a0, some v, a2, a3, a4, a5, a6, a7, a8, a9, a10, a11, a12] := jx_st1_app [a0] [a2, a3, a4, a5, a6, a7, a8, a9, a10, a11, a12] h
theorem jx_f13_1 {v : Value} {a0 a1 a2 a3 a4 a5 a6 a7 a8 a9 a10 a11 a12 : Option Value} (h : jx_nl a0) : jx_st2 [a0, a1, a2, a3, a4, a5, a6, a7, a8, a9, a10, a11, a12] 1 v [a0, some v, none, a3, a4, a5, a6, a7, a8, a9, a10, a11, a12] := jx_st2_app [a0] [a3, a4, a5, a6, a7, a8, a9, a10, a11, a12] h
theorem jx_e13_2 {v : Value} {a0 a1 a2 a3 a4 a5 a6 a7 a8 a9 a10 a11 a12 : Option Value} (h : jx_nl a1) : jx_st1 [a0, a1, a2, a3, a4, a5, a6, a7, a8, a9, a10, a11, a12] 2 v [a0, a1, some v, a3, a4, a5, a6, a7, a8, a9, a10, a11, a12] := jx_st1_app [a0, a1] [a3, a4, a5, a6, a7, a8, a9, a10, a11, a12] h
theorem jx_f13_2 {v : Value} {a0 a1 a2 a3 a4 a5 a6 a7 a8 a9 a10 a11 a12 : Option Value} (h : jx_nl a1) : jx_st2 [a0, a1, a2, a3, a4, a5, a6, a7, a8, a9, a10, a11, a12] 2 v [a0, a1, some v, none, a4, a5, a6, a7, a8, a9, a10, a11, a12] := jx_st2_app [a0, a1] [a4, a5, a6, a7, a8, a9, a10, a11, a12] h
theorem jx_e13_3 {v : Value} {a0 a1 a2 a3 a4 a5 a6 a7 a8 a9 a10 a11 a12 : Option Value} (h : jx_nl a2) : jx_st1 [a0, a1, a2, a3, a4, a5, a6, a7, a8, a9, a10, a11, a12] 3 v [a0, a1, a2, some v, a4, a5, a6, a7, a8, a9, a10, a11, a12] := jx_st1_app [a0, a1, a2] [a4, a5, a6, a7, a8, a9, a10, a11, a12] h
theorem jx_f13_3 {v : Value} {a0 a1 a2 a3 a4 a5 a6 a7 a8 a9 a10 a11 a12 : Option Value} (h : jx_nl a2) : jx_st2 [a0, a1, a2, a3, a4, a5, a6, a7, a8, a9, a10, a11, a12] 3 v [a0, a1, a2, some v, none, a5, a6, a7, a8, a9, a10, a11, a12] := jx_st2_app [a0, a1, a2] [a5, a6, a7, a8, a9, a10, a11, a12] h
theorem jx_e13_4 {v : Value} {a0 a1 a2 a3 a4 a5 a6 a7 a8 a9 a10 a11 a12 : Option Value} (h : jx_nl a3) : jx_st1 [a0, a1, a2, a3, a4, a5, a6, a7, a8, a9, a10, a11, a12] 4 v [a0, a1, a2, a3, some v, a5, a6, a7, a8, a9, a10, a11, a12] := jx_st1_app [a0, a1, a2, a3] [a5, a6, a7, a8, a9, a10, a11, a12] h
theorem jx_f13_4 {v : Value} {a0 a1 a2 a3 a4 a5 a6 a7 a8 a9 a10 a11 a12 : Option Value} (h : jx_nl a3) : jx_st2 [a0, a1, a2, a3, a4, a5, a6, a7, a8, a9, a10, a11, a12] 4 v [a0, a1, a2, a3, some v, none, a6, a7, a8, a9, a10, a11, a12] := jx_st2_app [a0, a1, a2, a3] [a6, a7, a8, a9, a10, a11, a12] h
theorem jx_e13_5 {v : Value} {a0 a1 a2 a3 a4 a5 a6 a7 a8 a9 a10 a11 a12 : Option Value} (h : jx_nl a4) : jx_st1 [a0, a1, a2, a3, a4, a5, a6, a7, a8, a9, a10, a11, a12] 5 v [a0, a1, a2, a3, a4, some v, a6, a7, a8, a9, a10, a11, a12] := jx_st1_app [a0, a1, a2, a3, a4] [a6, a7, a8, a9, a10, a11, a12] h
theorem jx_f13_5 {v : Value} {a0 a1 a2 a3 a4 a5 a6 a7 a8 a9 a10 a11 a12 : Option Value} (h : jx_nl a4) : jx_st2 [a0, a1, a2, a3, a4, a5, a6, a7, a8, a9, a10, a11, a12] 5 v [a0, a1, a2, a3, a4, some v, none, a7, a8, a9, a10, a11, a12] := jx_st2_app [a0, a1, a2, a3, a4] [a7, a8, a9, a10, a11, a12] h
theorem jx_e13_6 {v : Value} {a0 a1 a2 a3 a4 a5 a6 a7 a8 a9 a10 a11 a12 : Option Value} (h : jx_nl a5) : jx_st1 [a0, a1, a2, a3, a4, a5, a6, a7, a8, a9, a10, a11, a12] 6 v [a0, a1, a2, a3, a4, a5, some v, a7, a8, a9, a10, a11, a12] := jx_st1_app [a0, a1, a2, a3, a4, a5] [a7, a8, a9, a10, a11, a12] h
theorem jx_f13_6 {v : Value} {a0 a1 a2 a3 a4 a5 a6 a7 a8 a9 a10 a11 a12 : Option Value} (h : jx_nl a5) : jx_st2 [a0, a1, a2, a3, a4, a5, a6, a7, a8, a9, a10, a11, a12] 6 v [a0, a1, a2, a3, a4, a5, some v, none, a8, a9, a10, a11, a12] := jx_st2_app [a0, a1, a2, a3, a4, a5] [a8, a9, a10, a11, a12] h
theorem jx_e13_7 {v : Value} {a0 a1 a2 a3 a4 a5 a6 a7 a8 a9 a10 a11 a12 : Option Value} (h : jx_nl a6) : jx_st1 [a0, a1, a2, a3, a4, a5, a6, a7, a8, a9, a10, a11, a12] 7 v [a0, a1, a2, a3, a4, a5, a6, some v, a8, a9, a10, a11, a12] := jx_st1_app [a0, a1, a2, a3, a4, a5, a6] [a8, a9, a10, a11, a12] h
theorem jx_f13_7 {v : Value} {a0 a1 a2 a3 a4 a5 a6 a7 a8 a9 a10 a11 a12 : Option Value} (h : jx_nl a6) : jx_st2 [a0, a1, a2, a3, a4, a5, a6, a7, a8, a9, a10, a11, a12] 7 v [a0, a1, a2, a3, a4, a5, a6, some v, none, a9, a10, a11, a12] := jx_st2_app [a0, a1, a2, a3, a4, a5, a6] [a9, a10, a11, a12] h
theorem jx_e13_8 {v : Value} {a0 a1 a2 a3 a4 a5 a6 a7 a8 a9 a10 a11 a12 : Option Value} (h : jx_nl a7) : jx_st1 [a0, a1, a2, a3, a4, a5, a6, a7, a8, a9, a10, a11, a12] 8 v [a0, a1, a2, a3, a4, a5, a6, a7, some v, a9, a10, a11, a12] := jx_st1_app [a0, a1, a2, a3, a4, a5, a6, a7] [a9, a10, a11, a12] h
theorem jx_f13_8 {v : Value} {a0 a1 a2 a3 a4 a5 a6 a7 a8 a9 a10 a11 a12 : Option Value} (h : jx_nl a7) : jx_st2 [a0, a1, a2, a3, a4, a5, a6, a7, a8, a9, a10, a11, a12] 8 v [a0, a1, a2, a3, a4, a5, a6, a7, some v, none, a10, a11, a12] := jx_st2_app [a0, a1, a2, a3, a4, a5, a6, a7] [a10, a11, a12] h
theorem jx_e13_9 {v : Value} {a0 a1 a2 a3 a4 a5 a6 a7 a8 a9 a10 a11 a12 : Option Value} (h : jx_nl a8) : jx_st1 [a0, a1, a2, a3, a4, a5, a6, a7, a8, a9, a10, a11, a12] 9 v [a0, a1, a2, a3, a4, a5, a6, a7, a8, some v, a10, a11, a12] := jx_st1_app [a0, a1, a2, a3, a4, a5, a6, a7, a8] [a10, a11, a12] h
theorem jx_f13_9 {v : Value} {a0 a1 a2 a3 a4 a5 a6 a7 a8 a9 a10 a11 a12 : Option Value} (h : jx_nl a8) : jx_st2 [a0, a1, a2, a3, a4, a5, a6, a7, a8, a9, a10, a11, a12] 9 v [a0, a1, a2, a3, a4, a5, a6, a7, a8, some v, none, a11, a12] := jx_st2_app [a0, a1, a2, a3, a4, a5, a6, a7, a8] [a11, a12] h
theorem jx_e13_10 {v : Value} {a0 a1 a2 a3 a4 a5 a6 a7 a8 a9 a10 a11 a12 : Option Value} (h : jx_nl a9) : jx_st1 [a0, a1, a2, a3, a4, a5, a6, a7, a8, a9, a10, a11, a12] 10 v [a0, a1, a2, a3, a4, a5, a6, a7, a8, a9, some v, a11, a12] := jx_st1_app [a0, a1, a2, a3, a4, a5, a6, a7, a8, a9] [a11, a12] h
theorem jx_f13_10 {v : Value} {a0 a1 a2 a3 a4 a5 a6 a7 a8 a9 a10 a11 a12 : Option Value} (h : jx_nl a9) : jx_st2 [a0, a1, a2, a3, a4, a5, a6, a7, a8, a9, a10, a11, a12] 10 v [a0, a1, a2, a3, a4, a5, a6, a7, a8, a9, some v, none, a12] := jx_st2_app [a0, a1, a2, a3, a4, a5, a6, a7, a8, a9] [a12] h
theorem jx_e13_11 {v : Value} {a0 a1 a2 a3 a4 a5 a6 a7 a8 a9 a10 a11 a12 : Option Value} (h : jx_nl a10) : jx_st1 [a0, a1, a2, a3, a4, a5, a6, a7, a8, a9, a10, a11, a12] 11 v [a0, a1, a2, a3, a4, a5, a6, a7, a8, a9, a10, some v, a12] := jx_st1_app [a0, a1, a2, a3, a4, a5, a6, a7, a8, a9, a10] [a12] h
theorem jx_f13_11 {v : Value} {a0 a1 a2 a3 a4 a5 a6 a7 a8 a9 a10 a11 a12 : Option Value} (h : jx_nl a10) : jx_st2 [a0, a1, a2, a3, a4, a5, a6, a7, a8, a9, a10, a11, a12] 11 v [a0, a1, a2, a3, a4, a5, a6, a7, a8, a9, a10, some v, none] := jx_st2_app [a0, a1, a2, a3, a4, a5, a6, a7, a8, a9, a10] [] h
theorem jx_e13_12 {v : Value} {a0 a1 a2 a3 a4 a5 a6 a7 a8 a9 a10 a11 a12 : Option Value} (h : jx_nl a11) : jx_st1 [a0, a1, a2, a3, a4, a5, a6, a7, a8, a9, a10, a11, a12] 12 v [a0, a1, a2, a3, a4, a5, a6, a7, a8, a9, a10, a11, some v] := jx_st1_app [a0, a1, a2, a3, a4, a5, a6, a7, a8, a9, a10, a11] [] h
