/-! PART 54: the states are those of the rows, in the order of their times -/
theorem l_mxI (s v : Int64) : (if v ≤ s then s else v).toInt = max s.toInt v.toInt := by
  by_cases h : v ≤ s
  · rw [if_pos h]
    rw [Int64.le_iff_toInt_le] at h
    omega
  · rw [if_neg h]
    rw [Int64.le_iff_toInt_le] at h
    omega
theorem l_mnI (s v : Int64) : (if s ≤ v then s else v).toInt = min s.toInt v.toInt := by
  by_cases h : s ≤ v
  · rw [if_pos h]
    rw [Int64.le_iff_toInt_le] at h
    omega
  · rw [if_neg h]
    rw [Int64.le_iff_toInt_le] at h
    omega
theorem sp_mj_in : ∀ kn, kn ≤ 8 → sp_mj (nI kn) = true → kn = 0 ∨ kn = 1 ∨ kn = 2 ∨ kn = 6 ∨ kn = 7 := by decide +kernel
theorem sp_tb_in : ∀ kn, kn ≤ 8 → sp_tb (nI kn) = true → kn = 0 ∨ kn = 6 ∨ kn = 7 := by decide +kernel
theorem sp_tb_mj : ∀ kn, kn ≤ 8 → sp_tb (nI kn) = true → sp_mj (nI kn) = true := by decide +kernel
theorem sp_st_comm {kn : Nat} (hk : kn ≤ 8) (h : sp_mj (nI kn) = true) (p s v w g g' : Int64) (b b' : Bool) : sp_st kn p (sp_st kn p s v g b) w g' b' = sp_st kn p (sp_st kn p s w g' b') v g b := by
  rcases sp_mj_in kn hk h with rfl | rfl | rfl | rfl | rfl
  · simp only [sp_st]
    rw [Int64.add_assoc, Int64.add_comm v, ← Int64.add_assoc]
  · apply Int64.toInt_inj.mp
    simp only [sp_st, l_mxI]
    omega
  · apply Int64.toInt_inj.mp
    simp only [sp_st, l_mnI]
    omega
  · simp only [sp_st]
  · simp only [sp_st]
    rw [Int64.xor_assoc, Int64.xor_comm (v * p), ← Int64.xor_assoc]
/-- the fold without times -/
def sp_fs (kn : Nat) (st p : Int64) (vl : Nat → Int64) : Nat → Int64
  | 0 => st
  | i + 1 => sp_st kn p (sp_fs kn st p vl i) (vl i) 0 false
theorem sp_fo_fs {kn : Nat} (hk : kn ≤ 8) (h : sp_mj (nI kn) = true) (st p : Int64) (tm vl : Nat → Int64) : ∀ n, sp_fo kn st p tm vl n = sp_fs kn st p vl n
  | 0 => rfl
  | n + 1 => by
    rw [sp_fo, sp_fs, sp_sa, sp_fo_fs hk h st p tm vl n, sp_st_mj h hk]
theorem sp_fs_congr {kn : Nat} {st p : Int64} {vl vl' : Nat → Int64} : ∀ {n : Nat}, (∀ i, i < n → vl i = vl' i) → sp_fs kn st p vl n = sp_fs kn st p vl' n
  | 0, _ => rfl
  | n + 1, h => by
    rw [sp_fs, sp_fs, sp_fs_congr (fun i hi => h i (by omega)), h n (by omega)]
theorem sp_fo_congr {kn : Nat} {st p : Int64} {tm vl tm' vl' : Nat → Int64} : ∀ {n : Nat}, (∀ i, i < n → tm i = tm' i ∧ vl i = vl' i) → sp_fo kn st p tm vl n = sp_fo kn st p tm' vl' n
  | 0, _ => rfl
  | n + 1, h => by
    have ih := sp_fo_congr (kn := kn) (st := st) (p := p) (n := n) (tm := tm) (vl := vl) (tm' := tm') (vl' := vl') (fun i hi => h i (by omega))
    simp only [sp_fo, sp_sa, ih, (h n (by omega)).1, (h n (by omega)).2]
    by_cases h0 : n = 0
    · simp [h0]
    · simp only [h0, if_false, (h (n - 1) (by omega)).1]
theorem sp_fs_in {kn : Nat} (hk : kn ≤ 8) (h : sp_mj (nI kn) = true) (st p : Int64) (vl : Nat → Int64) (n pl : Nat) (v : Int64) : ∀ r m, pl + r = m → m ≤ n → sp_fs kn st p (sp_in vl n pl v) (m + 1) = sp_st kn p (sp_fs kn st p vl m) v 0 false := by
  intro r
  induction r with
  | zero =>
    intro m hm hmn
    have : m = pl := by omega
    subst this
    rw [sp_fs, sp_fs_congr (vl := sp_in vl n m v) (vl' := vl) (fun i hi => by rw [sp_in_at, if_neg (by omega), if_neg (by omega)]), sp_in_at, if_pos rfl]
  | succ r ih =>
    intro m hm hmn
    have h1 := ih (m - 1) (by omega) (by omega)
    rw [show m - 1 + 1 = m by omega] at h1
    rw [sp_fs, h1, sp_in_at, if_neg (by omega), if_pos (by omega), sp_st_comm hk h]
    congr 1
    have h2 : sp_fs kn st p vl m = sp_fs kn st p vl (m - 1 + 1) := by rw [show m - 1 + 1 = m by omega]
    rw [h2, sp_fs]
theorem sp_bk_st {kn : Nat} (hk : kn ≤ 8) (h : sp_tb (nI kn) = true) (p s v : Int64) : sp_bk kn p (sp_st kn p s v 0 false) v = s := by
  rcases sp_tb_in kn hk h with rfl | rfl | rfl
  · simp only [sp_st, sp_bk]
    rw [Int64.add_sub_cancel]
  · simp only [sp_st, sp_bk]
    rw [Int64.add_sub_cancel]
  · simp only [sp_st, sp_bk]
    rw [Int64.xor_assoc, Int64.xor_self, Int64.xor_zero]
theorem sp_bk_comm {kn : Nat} (hk : kn ≤ 8) (h : sp_tb (nI kn) = true) (p s v w : Int64) : sp_bk kn p (sp_st kn p s v 0 false) w = sp_st kn p (sp_bk kn p s w) v 0 false := by
  rcases sp_tb_in kn hk h with rfl | rfl | rfl
  · simp only [sp_st, sp_bk]
    rw [Int64.sub_eq_add_neg, Int64.sub_eq_add_neg, Int64.add_assoc, Int64.add_comm v, ← Int64.add_assoc]
  · simp only [sp_st, sp_bk]
    rw [Int64.sub_eq_add_neg, Int64.sub_eq_add_neg, Int64.add_assoc, Int64.add_comm 1, ← Int64.add_assoc]
  · simp only [sp_st, sp_bk]
    rw [Int64.xor_assoc, Int64.xor_comm (v * p), ← Int64.xor_assoc]
theorem sp_bk_1 {kn : Nat} (hk : kn ≤ 8) (h : sp_tb (nI kn) = true) (st p : Int64) (vl : Nat → Int64) : ∀ n, sp_bk kn p (sp_fs kn st p vl (n + 1)) (vl 0) = sp_fs kn st p (fun i => vl (i + 1)) n
  | 0 => by
    show sp_bk kn p (sp_st kn p st (vl 0) 0 false) (vl 0) = st
    exact sp_bk_st hk h p st (vl 0)
  | n + 1 => by
    rw [sp_fs, sp_bk_comm hk h, sp_bk_1 hk h st p vl n]
    rfl
theorem sp_tk_fs {kn : Nat} (hk : kn ≤ 8) (h : sp_tb (nI kn) = true) (st p : Int64) (vl : Nat → Int64) (n : Nat) : ∀ g, g ≤ n → sp_tk kn p vl g (sp_fs kn st p vl n) = sp_fs kn st p (fun i => vl (i + g)) (n - g)
  | 0, _ => rfl
  | g + 1, hg => by
    rw [sp_tk, sp_tk_fs hk h st p vl n g (by omega), show n - g = (n - (g + 1)) + 1 by omega]
    have e : sp_bk kn p (sp_fs kn st p (fun i => vl (i + g)) (n - (g + 1) + 1)) (vl (0 + g)) = sp_fs kn st p (fun i => vl (i + 1 + g)) (n - (g + 1)) := sp_bk_1 hk h st p (fun i => vl (i + g)) (n - (g + 1))
    rw [Nat.zero_add] at e
    rw [e]
    congr 1
    funext i
    rw [show i + 1 + g = i + (g + 1) by omega]
/-- the states of a key -/
def sp_si (fd : sp_fd) (nF : Nat) (q : sp_key) : Prop := ∀ f, f < nF → q.2.2.2.2 f = sp_fo (fd f).1 (fd f).2.1 (fd f).2.2.1 q.2.2.1 q.2.2.2.1 q.1
theorem sp_si_k0 {fd : sp_fd} {nF : Nat} : sp_si fd nF (sp_k0 fd nF) := by
  intro f hf
  show sp_ut nF (fun f => (fd f).2.1) (fun _ => 0) f = _
  unfold sp_ut
  rw [if_pos hf]
  rfl
theorem sp_si_tq {fd : sp_fd} {nF : Nat} {t v : Int64} {q : sp_key} (hk : ∀ f, f < nF → (fd f).1 ≤ 8) (h : sp_si fd nF q) : sp_si fd nF (sp_tq fd nF t v q) := by
  intro f hf
  have hpl : sp_tp t q ≤ q.1 := sp_ld_le _ _
  show sp_ut nF (sp_n3 fd (sp_in q.2.2.1 q.1 (sp_tp t q) t) (sp_in q.2.2.2.1 q.1 (sp_tp t q) v) q.2.2.2.2 (q.1 + 1) (sp_tp t q)) q.2.2.2.2 f = sp_fo (fd f).1 (fd f).2.1 (fd f).2.2.1 (sp_in q.2.2.1 q.1 (sp_tp t q) t) (sp_in q.2.2.2.1 q.1 (sp_tp t q) v) (q.1 + 1)
  generalize sp_tp t q = pl at *
  unfold sp_ut
  rw [if_pos hf]
  unfold sp_n3
  by_cases hmj : sp_mj (nI (fd f).1) = true
  · rw [if_pos (by rw [hmj, Bool.or_true])]
    rw [sp_fo_fs (hk f hf) hmj, sp_fs_in (hk f hf) hmj _ _ _ _ _ _ (q.1 - pl) q.1 (by omega) (Nat.le_refl _), h f hf, sp_fo_fs (hk f hf) hmj, sp_sa, sp_in_at, if_pos rfl]
    exact sp_st_mj hmj (hk f hf) _ _ _ _ _ _ _
  · by_cases hb : pl = q.1 + 1 - 1
    · rw [if_pos (by rw [decide_eq_true hb]; rfl)]
      have hb' : pl = q.1 := by omega
      subst hb'
      rw [sp_fo, h f hf, sp_fo_congr (tm := q.2.2.1) (vl := q.2.2.2.1) (tm' := sp_in q.2.2.1 q.1 q.1 t) (vl' := sp_in q.2.2.2.1 q.1 q.1 v)]
      intro i hi
      rw [sp_in_at, sp_in_at, if_neg (by omega), if_neg (by omega), if_neg (by omega), if_neg (by omega)]
      exact ⟨rfl, rfl⟩
    · rw [if_neg (by rw [decide_eq_false hb]; simpa using hmj)]
theorem sp_si_lv {fd : sp_fd} {nF : Nat} {thr : Int64} {q : sp_key} (hk : ∀ f, f < nF → (fd f).1 ≤ 8) (h : sp_si fd nF q) : sp_si fd nF (sp_lv fd nF thr q) := by
  unfold sp_lv
  split
  · exact h
  · intro f hf
    have hg : sp_lg thr q ≤ q.1 := sp_ld_le _ _
    show sp_ut nF (sp_n2 fd (sp_rm q.2.2.1 q.1 (sp_lg thr q)) (sp_rm q.2.2.2.1 q.1 (sp_lg thr q)) (sp_ut nF (sp_n1 fd q.2.2.2.1 q.2.2.2.2 (sp_lg thr q)) q.2.2.2.2) (q.1 - sp_lg thr q)) (sp_ut nF (sp_n1 fd q.2.2.2.1 q.2.2.2.2 (sp_lg thr q)) q.2.2.2.2) f = sp_fo (fd f).1 (fd f).2.1 (fd f).2.2.1 (sp_rm q.2.2.1 q.1 (sp_lg thr q)) (sp_rm q.2.2.2.1 q.1 (sp_lg thr q)) (q.1 - sp_lg thr q)
    generalize sp_lg thr q = g at *
    unfold sp_ut
    rw [if_pos hf]
    unfold sp_n2
    by_cases htb : sp_tb (nI (fd f).1) = true
    · rw [if_pos htb]
      show (if f < nF then sp_n1 fd q.2.2.2.1 q.2.2.2.2 g f else q.2.2.2.2 f) = _
      rw [if_pos hf]
      unfold sp_n1
      have hmj := sp_tb_mj _ (hk f hf) htb
      rw [if_pos htb, h f hf, sp_fo_fs (hk f hf) hmj, sp_fo_fs (hk f hf) hmj, sp_tk_fs (hk f hf) htb _ _ _ _ g hg]
      refine sp_fs_congr (fun i hi => ?_)
      unfold sp_rm
      rw [if_pos (by omega)]
    · rw [if_neg htb]
