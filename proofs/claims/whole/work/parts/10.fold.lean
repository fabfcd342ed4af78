/-! PART 10: pure words, cells, the class Fold -/
def sp_ex (P : Nat → Bool) : Nat → Bool
  | 0 => false
  | n + 1 => sp_ex P n || P n
theorem sp_ex_at {P : Nat → Bool} {i n : Nat} (h : P i = true) (hi : i < n) : sp_ex P n = true := by
  induction n with
  | zero => omega
  | succ n ih =>
    by_cases hn : i = n
    · subst hn
      simp [sp_ex, h]
    · simp [sp_ex, ih (by omega)]
/-- the least place at which P holds -/
def sp_ix (P : Nat → Bool) : Nat → Option Nat
  | 0 => none
  | n + 1 => match sp_ix P n with
    | some i => some i
    | none => if P n then some n else none
theorem sp_ix_at {P : Nat → Bool} {i n : Nat} (h0 : sp_ix P i = none) (h : P i = true) (hi : i < n) : sp_ix P n = some i := by
  induction n with
  | zero => omega
  | succ n ih =>
    by_cases hn : i = n
    · subst hn
      simp [sp_ix, h0, h]
    · simp [sp_ix, ih (by omega)]
theorem sp_ix_lt {P : Nat → Bool} {i n : Nat} (h : sp_ix P n = some i) : i < n ∧ P i = true := by
  induction n with
  | zero => simp [sp_ix] at h
  | succ n ih =>
    unfold sp_ix at h
    split at h
    · rename_i j hj
      cases h
      have := ih hj
      exact ⟨by omega, this.2⟩
    · split at h
      · cases h
        exact ⟨by omega, by assumption⟩
      · cases h
theorem sp_ix_no {P : Nat → Bool} {n : Nat} (h : sp_ix P n = none) : ∀ i, i < n → P i = false := by
  induction n with
  | zero => intro i hi; omega
  | succ n ih =>
    unfold sp_ix at h
    split at h
    · cases h
    · rename_i hn
      split at h
      · cases h
      · rename_i hP
        intro i hi
        by_cases e : i = n
        · subst e
          simpa using hP
        · exact ih hn i (by omega)
abbrev kf_la (n : Nat) (f : Nat → Int64) : jx_E := .inr (51, n, .inr (.inl f))
abbrev kf_ia (n : Nat) (f : Nat → Int32) : jx_E := .inr (50, n, .inl f)
abbrev kf_oa (n : Nat) (f : Nat → Option Nat) : jx_E := .inr (52, n, .inr (.inr (.inr (.inr f))))
/-- a Fold: kind, start, p, how many values it fails at, their array -/
abbrev kf_F (kd : Int32) (s p : Int64) (n : Nat) (fa : Nat) : jx_E := .inl (0, [.int kd, .long s, .long p, .int (nI n), .ref fa])
/-- 1 or 0 -/
def kf_b (b : Bool) : Int32 := if b then 1 else 0
theorem kf_b01 (b : Bool) : kf_b b = 0 ∨ kf_b b = 1 := by cases b <;> simp [kf_b]
def sp_tb (kd : Int32) : Bool := kd == 0 || kd == 6 || kd == 7
def sp_mj (kd : Int32) : Bool := kd == 1 || kd == 2 || sp_tb kd
section CF
variable {G : jx_G} {d a fa sz n : Nat} {kd : Int32} {s p v : Int64} {w : Nat → Int64} {M : jx_H} {Z : Option Value → jx_H → Nat → Prop}
theorem c_F_canBeTakenBack (h : M a = some (kf_F kd s p n fa)) (k : Z (some (.int (kf_b (sp_tb kd)))) M sz) : jx_Cr md_F_canBeTakenBack G d [.ref a] M sz 0 0 Z := by
  refine jx_ent rfl (Nat.le_of_ble_eq_true rfl) (l := [some (.ref a)]) (by simp [jx_le, jx_eas, Value.category]) (fun hlt => ?_)
  refine jx_aload_n (i := 0) d_F_canBeTakenBack_0 rfl rfl ?_
  refine jx_getf d_F_canBeTakenBack_1 gf_F_19 h rfl ?_
  refine jx_if_eq (tgt := 25) d_F_canBeTakenBack_4 (by decide) (fun c4 => ?_) (fun c4 => ?_)
  · refine jx_iconst (v := 1) d_F_canBeTakenBack_25 (by decide) ?_
    refine jx_goto (tgt := 30) d_F_canBeTakenBack_26 (by decide) ?_
    exact jx_zret d_F_canBeTakenBack_30 rfl (by first | exact Or.inl rfl | exact Or.inr rfl) (by omega) (by omega) (by simpa [sp_tb, kf_b, c4] using k)
  · refine jx_aload_n (i := 0) d_F_canBeTakenBack_7 rfl rfl ?_
    refine jx_getf d_F_canBeTakenBack_8 gf_F_19 h rfl ?_
    refine jx_bipush (v := 6) d_F_canBeTakenBack_11 (by decide) ?_
    refine jx_icmp_eq (tgt := 25) d_F_canBeTakenBack_13 (by decide) (fun c13 => ?_) (fun c13 => ?_)
    · refine jx_iconst (v := 1) d_F_canBeTakenBack_25 (by decide) ?_
      refine jx_goto (tgt := 30) d_F_canBeTakenBack_26 (by decide) ?_
      exact jx_zret d_F_canBeTakenBack_30 rfl (by first | exact Or.inl rfl | exact Or.inr rfl) (by omega) (by omega) (by simpa [sp_tb, kf_b, c13] using k)
    · refine jx_aload_n (i := 0) d_F_canBeTakenBack_16 rfl rfl ?_
      refine jx_getf d_F_canBeTakenBack_17 gf_F_19 h rfl ?_
      refine jx_bipush (v := 7) d_F_canBeTakenBack_20 (by decide) ?_
      refine jx_icmp_ne (tgt := 29) d_F_canBeTakenBack_22 (by decide) (fun c22 => ?_) (fun c22 => ?_)
      · refine jx_iconst (v := 0) d_F_canBeTakenBack_29 (by decide) ?_
        exact jx_zret d_F_canBeTakenBack_30 rfl (by first | exact Or.inl rfl | exact Or.inr rfl) (by omega) (by omega) (by simpa [sp_tb, kf_b, c4, c13, c22] using k)
      · refine jx_iconst (v := 1) d_F_canBeTakenBack_25 (by decide) ?_
        refine jx_goto (tgt := 30) d_F_canBeTakenBack_26 (by decide) ?_
        exact jx_zret d_F_canBeTakenBack_30 rfl (by first | exact Or.inl rfl | exact Or.inr rfl) (by omega) (by omega) (by simpa [sp_tb, kf_b, c4, c13, c22] using k)
theorem c_F_mayBeJoined (hd : 0 < d) (h : M a = some (kf_F kd s p n fa)) (k : Z (some (.int (kf_b (sp_mj kd)))) M sz) : jx_Cr md_F_mayBeJoined G d [.ref a] M sz 0 0 Z := by
  refine jx_ent rfl (Nat.le_of_ble_eq_true rfl) (l := [some (.ref a)]) (by simp [jx_le, jx_eas, Value.category]) (fun hlt => ?_)
  refine jx_aload_n (i := 0) d_F_mayBeJoined_0 rfl rfl ?_
  refine jx_getf d_F_mayBeJoined_1 gf_F_19 h rfl ?_
  refine jx_iconst (v := 1) d_F_mayBeJoined_4 (by decide) ?_
  refine jx_icmp_eq (tgt := 23) d_F_mayBeJoined_5 (by decide) (fun c5 => ?_) (fun c5 => ?_)
  · refine jx_iconst (v := 1) d_F_mayBeJoined_23 (by decide) ?_
    refine jx_goto (tgt := 28) d_F_mayBeJoined_24 (by decide) ?_
    exact jx_zret d_F_mayBeJoined_28 rfl (by first | exact Or.inl rfl | exact Or.inr rfl) (by omega) (by omega) (by simpa [sp_mj, kf_b, c5] using k)
  · refine jx_aload_n (i := 0) d_F_mayBeJoined_8 rfl rfl ?_
    refine jx_getf d_F_mayBeJoined_9 gf_F_19 h rfl ?_
    refine jx_iconst (v := 2) d_F_mayBeJoined_12 (by decide) ?_
    refine jx_icmp_eq (tgt := 23) d_F_mayBeJoined_13 (by decide) (fun c13 => ?_) (fun c13 => ?_)
    · refine jx_iconst (v := 1) d_F_mayBeJoined_23 (by decide) ?_
      refine jx_goto (tgt := 28) d_F_mayBeJoined_24 (by decide) ?_
      exact jx_zret d_F_mayBeJoined_28 rfl (by first | exact Or.inl rfl | exact Or.inr rfl) (by omega) (by omega) (by simpa [sp_mj, kf_b, c13] using k)
    · refine jx_aload_n (i := 0) d_F_mayBeJoined_16 rfl rfl ?_
      refine jx_callV0 d_F_mayBeJoined_17 mv_F_29 h rfl (jx_ok_rm (by omega) (Nat.le_of_ble_eq_true rfl)) (Nat.le_of_ble_eq_true rfl) (jx_rmc (by omega)) (jx_rms (by omega)) (c_F_canBeTakenBack (d := 0) h ?_)
      dsimp only [Option.toList, List.cons_append, List.nil_append]
      refine jx_if_eq (tgt := 27) d_F_mayBeJoined_20 (by decide) (fun c20 => ?_) (fun c20 => ?_)
      · refine jx_iconst (v := 0) d_F_mayBeJoined_27 (by decide) ?_
        exact jx_zret d_F_mayBeJoined_28 rfl (by first | exact Or.inl rfl | exact Or.inr rfl) (by omega) (by omega) (by
          have e : sp_tb kd = false := by cases hq : sp_tb kd <;> simp_all [kf_b]
          simpa [sp_mj, kf_b, c5, c13, e] using k)
      · refine jx_iconst (v := 1) d_F_mayBeJoined_23 (by decide) ?_
        refine jx_goto (tgt := 28) d_F_mayBeJoined_24 (by decide) ?_
        exact jx_zret d_F_mayBeJoined_28 rfl (by first | exact Or.inl rfl | exact Or.inr rfl) (by omega) (by omega) (by
          have e : sp_tb kd = true := by cases hq : sp_tb kd <;> simp_all [kf_b]
          simpa [sp_mj, kf_b, c5, c13, e] using k)
theorem c_F_isFailing (hn : n ≤ 4) (h : M a = some (kf_F kd s p n fa)) (hf : M fa = some (kf_la 4 w)) (k : Z (some (.int (kf_b (sp_ex (fun j => w j == v) n)))) M sz) : jx_Cr md_F_isFailing G d [.ref a, .long v] M sz 0 0 Z := by
  refine jx_ent rfl (Nat.le_of_ble_eq_true rfl) (l := [some (.ref a), some (.long v), none, none]) (by simp [jx_le, jx_eas, Value.category]) (fun hlt => ?_)
  have loop : ∀ (j i : Nat), i + j = n → sp_ex (fun j => w j == v) i = false → jx_V md_F_isFailing [] G (jx_rm d 0 0) (jx_Q1 G 0 0 Z) 2 [some (.ref a), some (.long v), none, some (.int (nI i))] [] M sz 0 0 := by
    intro j
    induction j with
    | zero =>
      intro i hi hP
      refine jx_iload_n (i := 3) d_F_isFailing_2 rfl rfl ?_
      refine jx_aload_n (i := 0) d_F_isFailing_3 rfl rfl ?_
      refine jx_getf d_F_isFailing_4 gf_F_9 h rfl ?_
      refine jx_icmp_ge (tgt := 29) d_F_isFailing_7 (by decide) (fun c7 => ?_) (fun c7 => ?_)
      · refine jx_iconst (v := 0) d_F_isFailing_29 (by decide) ?_
        exact jx_zret d_F_isFailing_30 rfl (by first | exact Or.inl rfl | exact Or.inr rfl) (by omega) (by omega) (by rw [show n = i by omega, hP] at k; exact k)
      · exact absurd ((nI_leI (by omega) (by omega)).mpr (by omega)) c7
    | succ j ih =>
      intro i hi hP
      refine jx_iload_n (i := 3) d_F_isFailing_2 rfl rfl ?_
      refine jx_aload_n (i := 0) d_F_isFailing_3 rfl rfl ?_
      refine jx_getf d_F_isFailing_4 gf_F_9 h rfl ?_
      refine jx_icmp_ge (tgt := 29) d_F_isFailing_7 (by decide) (fun c7 => ?_) (fun c7 => ?_)
      · exact absurd ((nI_leI (by omega) (by omega)).mp c7) (by omega)
      · refine jx_aload_n (i := 0) d_F_isFailing_10 rfl rfl ?_
        refine jx_getf d_F_isFailing_11 gf_F_15 h rfl ?_
        refine jx_iload_n (i := 3) d_F_isFailing_14 rfl rfl ?_
        refine jx_lald (t0 := 1) d_F_isFailing_15 hf rfl (vp_in_nI (by omega) (by omega)) ?_
        refine jx_lload_n (i := 1) d_F_isFailing_16 rfl rfl ?_
        refine jx_l_ne (tgt := 23) d_F_isFailing_17 d_F_isFailing_18 (by decide) (fun c17 => ?_) (fun c17 => ?_)
        · refine jx_iinc d_F_isFailing_23 rfl (Nat.le_of_ble_eq_true rfl) (jx_e4_3 (by trivial)) ?_
          refine jx_goto (tgt := 2) d_F_isFailing_26 (by decide) ?_
          rw [nI_1]
          refine ih (i + 1) (by omega) ?_
          rw [nI_clamp (by omega)] at c17
          simp [sp_ex, hP, c17]
        · refine jx_iconst (v := 1) d_F_isFailing_21 (by decide) ?_
          exact jx_zret d_F_isFailing_22 rfl (by first | exact Or.inl rfl | exact Or.inr rfl) (by omega) (by omega) (by
            rw [nI_clamp (by omega)] at c17
            rw [sp_ex_at (i := i) (by simp [c17]) (by omega)] at k
            exact k)
  refine jx_iconst (v := 0) d_F_isFailing_0 (by decide) ?_
  refine jx_istore_n (i := 3) d_F_isFailing_1 rfl (Nat.le_of_ble_eq_true rfl) (jx_e4_3 (by trivial)) ?_
  exact loop n 0 (by omega) rfl
end CF
