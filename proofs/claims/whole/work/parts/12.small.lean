/-! PART 12: StoppedKeys and Table -/
/-- StoppedKeys: the names' array, how many -/
abbrev kf_S (na n : Nat) : jx_E := .inl (2, [.ref na, .int (nI n)])
/-- a Table: how many were counted, limit, width, its cells -/
abbrev kf_T (c li wi ca : Nat) : jx_E := .inl (3, [.int (nI c), .int (nI li), .int (nI wi), .ref ca])
def kf_ix (r : Option Nat) : Int32 := match r with
  | some i => nI i
  | none => -1
theorem kf_ix_m1 {r : Option Nat} {n : Nat} (hr : ∀ i, r = some i → i < n) (hn : n < 2 ^ 31) : kf_ix r = -1 ↔ r = none := by
  cases r with
  | none => simp [kf_ix]
  | some i =>
    have := hr i rfl
    simp only [kf_ix, reduceCtorEq, iff_false]
    intro h
    have h2 := congrArg Int32.toInt h
    rw [nI_toInt (by omega)] at h2
    have : (-1 : Int32).toInt = -1 := by decide
    omega
section CS
variable {G : jx_G} {d a na sz n : Nat} {v : Int64} {w : Nat → Int64} {M : jx_H} {Z : Option Value → jx_H → Nat → Prop}
theorem c_S_init (h : M a = some (.inl (2, [.null, .int 0]))) (k : Z none (jx_up (jx_up M sz (kf_la 512 (fun _ => 0))) a (kf_S sz 0)) (sz + 1)) : jx_Cr md_S_init G d [.ref a] M sz 1 512 Z := by
  refine jx_ent rfl (Nat.le_of_ble_eq_true rfl) (l := [some (.ref a)]) (by simp [jx_le, jx_eas, Value.category]) (fun hlt => ?_)
  have hne : a ≠ sz := Nat.ne_of_lt (hlt a _ h)
  refine jx_aload_n (i := 0) d_S_init_0 rfl rfl ?_
  refine jx_objInit d_S_init_1 mo_S_3 (Nat.succ_le_succ (Nat.zero_le _)) (jx_rml (Nat.le_of_ble_eq_true rfl)) ?_
  refine jx_aload_n (i := 0) d_S_init_4 rfl rfl ?_
  refine jx_sipush (v := 512) d_S_init_5 (by decide) ?_
  refine jx_newa (N := 512) (ak := 51) (t0 := 1) (a0 := (512, .inr (.inl fun _ => 0))) d_S_init_8 rfl na_long rfl (fun _ => rfl) (by decide) (by decide) (by decide) (jx_rmc (by omega)) (jx_rms (by omega)) (fun hno => ?_)
  refine jx_putf d_S_init_10 pf_S_9 ((jx_up_n _ _ hne).trans h) (Nat.le_of_ble_eq_true rfl) rfl rfl ?_
  refine jx_aload_n (i := 0) d_S_init_13 rfl rfl ?_
  refine jx_iconst (v := 0) d_S_init_14 (by decide) ?_
  refine jx_putf d_S_init_15 pf_S_15 (jx_up_s _ _ _) (Nat.le_of_ble_eq_true rfl) rfl rfl ?_
  exact jx_vret d_S_init_18 rfl (by omega) (by omega) (by simp only [jx_up_u]; exact k)
theorem c_S_placeOf (hn : n ≤ 512) (h : M a = some (kf_S na n)) (hf : M na = some (kf_la 512 w)) (k : Z (some (.int (kf_ix (sp_ix (fun j => w j == v) n)))) M sz) : jx_Cr md_S_placeOf G d [.ref a, .long v] M sz 0 0 Z := by
  refine jx_ent rfl (Nat.le_of_ble_eq_true rfl) (l := [some (.ref a), some (.long v), none, none]) (by simp [jx_le, jx_eas, Value.category]) (fun hlt => ?_)
  have loop : ∀ (j i : Nat), i + j = n → sp_ix (fun j => w j == v) i = none → jx_V md_S_placeOf [] G (jx_rm d 0 0) (jx_Q1 G 0 0 Z) 2 [some (.ref a), some (.long v), none, some (.int (nI i))] [] M sz 0 0 := by
    intro j
    induction j with
    | zero =>
      intro i hi hP
      refine jx_iload_n (i := 3) d_S_placeOf_2 rfl rfl ?_
      refine jx_aload_n (i := 0) d_S_placeOf_3 rfl rfl ?_
      refine jx_getf d_S_placeOf_4 gf_S_15 h rfl ?_
      refine jx_icmp_ge (tgt := 29) d_S_placeOf_7 (by decide) (fun c7 => ?_) (fun c7 => ?_)
      · refine jx_iconst (v := (-1)) d_S_placeOf_29 (by decide) ?_
        exact jx_iret d_S_placeOf_30 rfl (by omega) (by omega) (by rw [show n = i by omega, hP] at k; exact k)
      · exact absurd ((nI_leI (by omega) (by omega)).mpr (by omega)) c7
    | succ j ih =>
      intro i hi hP
      refine jx_iload_n (i := 3) d_S_placeOf_2 rfl rfl ?_
      refine jx_aload_n (i := 0) d_S_placeOf_3 rfl rfl ?_
      refine jx_getf d_S_placeOf_4 gf_S_15 h rfl ?_
      refine jx_icmp_ge (tgt := 29) d_S_placeOf_7 (by decide) (fun c7 => ?_) (fun c7 => ?_)
      · exact absurd ((nI_leI (by omega) (by omega)).mp c7) (by omega)
      · refine jx_aload_n (i := 0) d_S_placeOf_10 rfl rfl ?_
        refine jx_getf d_S_placeOf_11 gf_S_9 h rfl ?_
        refine jx_iload_n (i := 3) d_S_placeOf_14 rfl rfl ?_
        refine jx_lald (t0 := 1) d_S_placeOf_15 hf rfl (vp_in_nI (by omega) (by omega)) ?_
        refine jx_lload_n (i := 1) d_S_placeOf_16 rfl rfl ?_
        refine jx_l_ne (tgt := 23) d_S_placeOf_17 d_S_placeOf_18 (by decide) (fun c17 => ?_) (fun c17 => ?_)
        · refine jx_iinc d_S_placeOf_23 rfl (Nat.le_of_ble_eq_true rfl) (jx_e4_3 (by trivial)) ?_
          refine jx_goto (tgt := 2) d_S_placeOf_26 (by decide) ?_
          rw [nI_1]
          refine ih (i + 1) (by omega) ?_
          rw [nI_clamp (by omega)] at c17
          simp [sp_ix, hP, c17]
        · refine jx_iload_n (i := 3) d_S_placeOf_21 rfl rfl ?_
          exact jx_iret d_S_placeOf_22 rfl (by omega) (by omega) (by
            rw [nI_clamp (by omega)] at c17
            rw [sp_ix_at (i := i) hP (by simp [c17]) (by omega)] at k
            exact k)
  refine jx_iconst (v := 0) d_S_placeOf_0 (by decide) ?_
  refine jx_istore_n (i := 3) d_S_placeOf_1 rfl (Nat.le_of_ble_eq_true rfl) (jx_e4_3 (by trivial)) ?_
  exact loop n 0 (by omega) rfl
theorem c_S_has (hd : 0 < d) (hn : n ≤ 512) (h : M a = some (kf_S na n)) (hf : M na = some (kf_la 512 w)) (k : Z (some (.int (kf_b (sp_ix (fun j => w j == v) n).isSome))) M sz) : jx_Cr md_S_has G d [.ref a, .long v] M sz 0 0 Z := by
  refine jx_ent rfl (Nat.le_of_ble_eq_true rfl) (l := [some (.ref a), some (.long v), none]) (by simp [jx_le, jx_eas, Value.category]) (fun hlt => ?_)
  refine jx_aload_n (i := 0) d_S_has_0 rfl rfl ?_
  refine jx_lload_n (i := 1) d_S_has_1 rfl rfl ?_
  refine jx_callV1 d_S_has_2 mv_S_19 h rfl (jx_ok_rm (by omega) (Nat.le_of_ble_eq_true rfl)) (Nat.le_of_ble_eq_true rfl) (jx_rmc (by omega)) (jx_rms (by omega)) (c_S_placeOf (d := 0) hn h hf ?_)
  dsimp only [Option.toList, List.cons_append, List.nil_append]
  have hm := kf_ix_m1 (r := sp_ix (fun j => w j == v) n) (fun i hi => (sp_ix_lt hi).1) (n := n) (by omega)
  refine jx_iconst (v := (-1)) d_S_has_5 (by decide) ?_
  refine jx_icmp_eq (tgt := 13) d_S_has_6 (by decide) (fun c6 => ?_) (fun c6 => ?_)
  · refine jx_iconst (v := 0) d_S_has_13 (by decide) ?_
    exact jx_zret d_S_has_14 rfl (by first | exact Or.inl rfl | exact Or.inr rfl) (by omega) (by omega) (by rw [hm.mp c6] at k; exact k)
  · refine jx_iconst (v := 1) d_S_has_9 (by decide) ?_
    refine jx_goto (tgt := 14) d_S_has_10 (by decide) ?_
    exact jx_zret d_S_has_14 rfl (by first | exact Or.inl rfl | exact Or.inr rfl) (by omega) (by omega) (by
      cases hq : sp_ix (fun j => w j == v) n with
      | none => exact absurd (hm.mpr hq) c6
      | some i => rw [hq] at k; exact k)
theorem c_S_add (hn : n < 512) (h : M a = some (kf_S na n)) (hf : M na = some (kf_la 512 w)) (hne : a ≠ na) (k : Z none (jx_up (jx_up M na (kf_la 512 (vp_updL w n v))) a (kf_S na (n + 1))) sz) : jx_Cr md_S_add G d [.ref a, .long v] M sz 0 0 Z := by
  refine jx_ent rfl (Nat.le_of_ble_eq_true rfl) (l := [some (.ref a), some (.long v), none]) (by simp [jx_le, jx_eas, Value.category]) (fun hlt => ?_)
  refine jx_aload_n (i := 0) d_S_add_0 rfl rfl ?_
  refine jx_getf d_S_add_1 gf_S_15 h rfl ?_
  refine jx_sipush (v := 512) d_S_add_4 (by decide) ?_
  refine jx_icmp_ge (tgt := 30) d_S_add_7 (by decide) (fun c7 => ?_) (fun c7 => ?_)
  · exact absurd c7 (fun q => by have := (nI_leI (a := 512) (by omega) (by omega)).mp q; omega)
  · refine jx_aload_n (i := 0) d_S_add_10 rfl rfl ?_
    refine jx_getf d_S_add_11 gf_S_9 h rfl ?_
    refine jx_aload_n (i := 0) d_S_add_14 rfl rfl ?_
    refine jx_getf d_S_add_15 gf_S_15 h rfl ?_
    refine jx_lload_n (i := 1) d_S_add_18 rfl rfl ?_
    refine jx_last (t0 := 1) d_S_add_19 hf rfl (vp_in_nI (by omega) (by omega)) ?_
    rw [nI_clamp (by omega)]
    refine jx_aload_n (i := 0) d_S_add_20 rfl rfl ?_
    refine jx_dup d_S_add_21 rfl ?_
    refine jx_getf d_S_add_22 gf_S_15 (by rw [jx_up_n _ _ hne]; exact h) rfl ?_
    refine jx_iconst (v := 1) d_S_add_25 (by decide) ?_
    refine jx_iadd d_S_add_26 ?_
    refine jx_putf d_S_add_27 pf_S_15 (by rw [jx_up_n _ _ hne]; exact h) (Nat.le_of_ble_eq_true rfl) rfl rfl ?_
    exact jx_vret d_S_add_30 rfl (by omega) (by omega) (by rw [nI_1]; exact k)
theorem c_S_remove {i : Nat} (hd : 0 < d) (hn : n ≤ 512) (h : M a = some (kf_S na n)) (hf : M na = some (kf_la 512 w)) (hne : a ≠ na) (hi : sp_ix (fun j => w j == v) n = some i) (k : Z none (jx_up (jx_up M a (kf_S na (n - 1))) na (kf_la 512 (vp_updL w i (w (n - 1))))) sz) : jx_Cr md_S_remove G d [.ref a, .long v] M sz 0 0 Z := by
  refine jx_ent rfl (Nat.le_of_ble_eq_true rfl) (l := [some (.ref a), some (.long v), none, none]) (by simp [jx_le, jx_eas, Value.category]) (fun hlt => ?_)
  have hlt2 := sp_ix_lt hi
  refine jx_aload_n (i := 0) d_S_remove_0 rfl rfl ?_
  refine jx_lload_n (i := 1) d_S_remove_1 rfl rfl ?_
  refine jx_callV1 d_S_remove_2 mv_S_19 h rfl (jx_ok_rm (by omega) (Nat.le_of_ble_eq_true rfl)) (Nat.le_of_ble_eq_true rfl) (jx_rmc (by omega)) (jx_rms (by omega)) (c_S_placeOf (d := 0) hn h hf ?_)
  dsimp only [Option.toList, List.cons_append, List.nil_append]
  have hm := kf_ix_m1 (r := sp_ix (fun j => w j == v) n) (fun i hi => (sp_ix_lt hi).1) (n := n) (by omega)
  refine jx_istore_n (i := 3) d_S_remove_5 rfl (Nat.le_of_ble_eq_true rfl) (jx_e4_3 (by trivial)) ?_
  refine jx_iload_n (i := 3) d_S_remove_6 rfl rfl ?_
  refine jx_iconst (v := (-1)) d_S_remove_7 (by decide) ?_
  refine jx_icmp_eq (tgt := 36) d_S_remove_8 (by decide) (fun c8 => ?_) (fun c8 => ?_)
  · exact absurd (hm.mp c8) (by rw [hi]; simp)
  · have hna : na ≠ a := fun q => hne q.symm
    have e1 : nI n - 1 = nI (n - 1) := by
      have := pk_sub (a := n) (b := 1) (by omega)
      exact this
    refine jx_aload_n (i := 0) d_S_remove_11 rfl rfl ?_
    refine jx_dup d_S_remove_12 rfl ?_
    refine jx_getf d_S_remove_13 gf_S_15 h rfl ?_
    refine jx_iconst (v := 1) d_S_remove_16 (by decide) ?_
    refine jx_isub d_S_remove_17 ?_
    refine jx_putf d_S_remove_18 pf_S_15 h (Nat.le_of_ble_eq_true rfl) rfl rfl ?_
    rw [e1]
    have hf2 : jx_up M a (Sum.inl (2, [Value.ref na, Value.int (nI n)].set 1 (Value.int (nI (n - 1))))) na = some (kf_la 512 w) := by rw [jx_up_n _ _ hna]; exact hf
    rw [hi]
    refine jx_aload_n (i := 0) d_S_remove_21 rfl rfl ?_
    refine jx_getf d_S_remove_22 gf_S_9 (jx_up_s _ _ _) rfl ?_
    refine jx_iload_n (i := 3) d_S_remove_25 rfl rfl ?_
    refine jx_aload_n (i := 0) d_S_remove_26 rfl rfl ?_
    refine jx_getf d_S_remove_27 gf_S_9 (jx_up_s _ _ _) rfl ?_
    refine jx_aload_n (i := 0) d_S_remove_30 rfl rfl ?_
    refine jx_getf d_S_remove_31 gf_S_15 (jx_up_s _ _ _) rfl ?_
    refine jx_lald (t0 := 1) d_S_remove_34 hf2 rfl (vp_in_nI (by omega) (by omega)) ?_
    refine jx_last (t0 := 1) d_S_remove_35 hf2 rfl (vp_in_nI (n := i) (by omega) (by omega)) ?_
    exact jx_vret d_S_remove_36 rfl (by omega) (by omega) (by rw [nI_clamp (by omega), show (kf_ix (some i)).toNatClampNeg = i from nI_clamp (by omega)]; exact k)
end CS
section CT
variable {G : jx_G} {d a ca sz c li wi : Nat} {x : Int64} {w : Nat → Int64} {M : jx_H} {Z : Option Value → jx_H → Nat → Prop}
theorem c_T_init (hl : li * wi ≤ 5000) (hl2 : li ≤ 5000) (hw : wi ≤ 5000) (h : M a = some (.inl (3, [.int 0, .int 0, .int 0, .null]))) (k : Z none (jx_up (jx_up M sz (kf_la (li * wi) (fun _ => 0))) a (kf_T 0 li wi sz)) (sz + 1)) : jx_Cr md_T_init G d [.ref a, .int (nI li), .int (nI wi)] M sz 1 (li * wi) Z := by
  refine jx_ent rfl (Nat.le_of_ble_eq_true rfl) (l := [some (.ref a), some (.int (nI li)), some (.int (nI wi))]) (by simp [jx_le, jx_eas, Value.category]) (fun hlt => ?_)
  have hne : a ≠ sz := Nat.ne_of_lt (hlt a _ h)
  have hz : M sz = none := by
    cases hq : M sz with
    | none => rfl
    | some e => exact absurd (hlt sz e hq) (Nat.lt_irrefl _)
  refine jx_aload_n (i := 0) d_T_init_0 rfl rfl ?_
  refine jx_objInit d_T_init_1 mo_T_3 (Nat.succ_le_succ (Nat.zero_le _)) (jx_rml (Nat.le_of_ble_eq_true rfl)) ?_
  refine jx_aload_n (i := 0) d_T_init_4 rfl rfl ?_
  refine jx_iconst (v := 0) d_T_init_5 (by decide) ?_
  refine jx_putf d_T_init_6 pf_T_9 h (Nat.le_of_ble_eq_true rfl) rfl rfl ?_
  refine jx_aload_n (i := 0) d_T_init_9 rfl rfl ?_
  refine jx_iload_n (i := 1) d_T_init_10 rfl rfl ?_
  refine jx_putf d_T_init_11 pf_T_15 (jx_up_s _ _ _) (Nat.le_of_ble_eq_true rfl) rfl rfl ?_
  refine jx_aload_n (i := 0) d_T_init_14 rfl rfl ?_
  refine jx_iload_n (i := 2) d_T_init_15 rfl rfl ?_
  refine jx_putf d_T_init_16 pf_T_18 (jx_up_s _ _ _) (Nat.le_of_ble_eq_true rfl) rfl rfl ?_
  refine jx_aload_n (i := 0) d_T_init_19 rfl rfl ?_
  refine jx_iload_n (i := 1) d_T_init_20 rfl rfl ?_
  refine jx_iload_n (i := 2) d_T_init_21 rfl rfl ?_
  refine jx_imul d_T_init_22 ?_
  rw [pk_mul]
  refine jx_newa (N := (li * wi)) (ak := 51) (t0 := 1) (a0 := ((li * wi), .inr (.inl fun _ => 0))) d_T_init_23 rfl na_long rfl (fun _ => rfl) (nI_pos (by omega)) (nI_clamp (by omega)) (by show _ * 8 ≤ _; omega) (jx_rmc (by omega)) (jx_rms (by omega)) (fun hno => ?_)
  refine jx_putf d_T_init_25 pf_T_21 ((jx_up_n _ _ hne).trans (jx_up_s _ _ _)) (Nat.le_of_ble_eq_true rfl) rfl rfl ?_
  exact jx_vret d_T_init_28 rfl (by omega) (by omega) (by simp only [jx_up_u]; rw [jx_up_c _ _ _ hne, jx_up_u]; exact k)
theorem c_T_keeps {q : Int32} (hc : c < 2 ^ 31) (hl : li < 2 ^ 31) (h : M a = some (kf_T c li wi ca)) (k : Z (some (.int (kf_b (decide (0 ≤ q.toInt ∧ q.toInt < c ∧ q.toInt < li))))) M sz) : jx_Cr md_T_keeps G d [.ref a, .int q] M sz 0 0 Z := by
  refine jx_ent rfl (Nat.le_of_ble_eq_true rfl) (l := [some (.ref a), some (.int q)]) (by simp [jx_le, jx_eas, Value.category]) (fun hlt => ?_)
  have e1 := nI_toInt hc
  have e2 := nI_toInt hl
  have e0 : (0 : Int32).toInt = 0 := by decide
  refine jx_iload_n (i := 1) d_T_keeps_0 rfl rfl ?_
  refine jx_if_lt (tgt := 24) d_T_keeps_1 (by decide) (fun c1 => ?_) (fun c1 => ?_)
  · refine jx_iconst (v := 0) d_T_keeps_24 (by decide) ?_
    exact jx_zret d_T_keeps_25 rfl (by first | exact Or.inl rfl | exact Or.inr rfl) (by omega) (by omega) (by
      rw [Int32.lt_iff_toInt_lt, e0] at c1
      rw [show decide (0 ≤ q.toInt ∧ q.toInt < c ∧ q.toInt < li) = false from decide_eq_false (by omega)] at k
      exact k)
  · refine jx_iload_n (i := 1) d_T_keeps_4 rfl rfl ?_
    refine jx_aload_n (i := 0) d_T_keeps_5 rfl rfl ?_
    refine jx_getf d_T_keeps_6 gf_T_9 h rfl ?_
    refine jx_icmp_ge (tgt := 24) d_T_keeps_9 (by decide) (fun c9 => ?_) (fun c9 => ?_)
    · refine jx_iconst (v := 0) d_T_keeps_24 (by decide) ?_
      exact jx_zret d_T_keeps_25 rfl (by first | exact Or.inl rfl | exact Or.inr rfl) (by omega) (by omega) (by
        rw [Int32.le_iff_toInt_le, e1] at c9
        rw [show decide (0 ≤ q.toInt ∧ q.toInt < c ∧ q.toInt < li) = false from decide_eq_false (by omega)] at k
        exact k)
    · refine jx_iload_n (i := 1) d_T_keeps_12 rfl rfl ?_
      refine jx_aload_n (i := 0) d_T_keeps_13 rfl rfl ?_
      refine jx_getf d_T_keeps_14 gf_T_15 h rfl ?_
      refine jx_icmp_ge (tgt := 24) d_T_keeps_17 (by decide) (fun c17 => ?_) (fun c17 => ?_)
      · refine jx_iconst (v := 0) d_T_keeps_24 (by decide) ?_
        exact jx_zret d_T_keeps_25 rfl (by first | exact Or.inl rfl | exact Or.inr rfl) (by omega) (by omega) (by
          rw [Int32.le_iff_toInt_le, e2] at c17
          rw [show decide (0 ≤ q.toInt ∧ q.toInt < c ∧ q.toInt < li) = false from decide_eq_false (by omega)] at k
          exact k)
      · refine jx_iconst (v := 1) d_T_keeps_20 (by decide) ?_
        refine jx_goto (tgt := 25) d_T_keeps_21 (by decide) ?_
        exact jx_zret d_T_keeps_25 rfl (by first | exact Or.inl rfl | exact Or.inr rfl) (by omega) (by omega) (by
          rw [Int32.lt_iff_toInt_lt, e0] at c1
          rw [Int32.le_iff_toInt_le, e1] at c9
          rw [Int32.le_iff_toInt_le, e2] at c17
          rw [show decide (0 ≤ q.toInt ∧ q.toInt < c ∧ q.toInt < li) = true from decide_eq_true (by omega)] at k
          exact k)
theorem c_T_addLine (hc : c < 2 ^ 30) (hl : li < 2 ^ 31) (h : M a = some (kf_T c li wi ca)) (k : Z (some (.int (if c < li then nI c else -1))) (jx_up M a (kf_T (c + 1) li wi ca)) sz) : jx_Cr md_T_addLine G d [.ref a] M sz 0 0 Z := by
  refine jx_ent rfl (Nat.le_of_ble_eq_true rfl) (l := [some (.ref a), none]) (by simp [jx_le, jx_eas, Value.category]) (fun hlt => ?_)
  refine jx_aload_n (i := 0) d_T_addLine_0 rfl rfl ?_
  refine jx_getf d_T_addLine_1 gf_T_9 h rfl ?_
  refine jx_istore_n (i := 1) d_T_addLine_4 rfl (Nat.le_of_ble_eq_true rfl) (jx_e2_1 (by trivial)) ?_
  refine jx_aload_n (i := 0) d_T_addLine_5 rfl rfl ?_
  refine jx_dup d_T_addLine_6 rfl ?_
  refine jx_getf d_T_addLine_7 gf_T_9 h rfl ?_
  refine jx_iconst (v := 1) d_T_addLine_10 (by decide) ?_
  refine jx_iadd d_T_addLine_11 ?_
  refine jx_putf d_T_addLine_12 pf_T_9 h (Nat.le_of_ble_eq_true rfl) rfl rfl ?_
  rw [nI_1]
  refine jx_iload_n (i := 1) d_T_addLine_15 rfl rfl ?_
  refine jx_if_lt (tgt := 31) d_T_addLine_16 (by decide) (fun c16 => ?_) (fun c16 => ?_)
  · exact absurd c16 (nI_pos (by omega))
  · refine jx_iload_n (i := 1) d_T_addLine_19 rfl rfl ?_
    refine jx_aload_n (i := 0) d_T_addLine_20 rfl rfl ?_
    refine jx_getf d_T_addLine_21 gf_T_15 (jx_up_s _ _ _) rfl ?_
    refine jx_icmp_ge (tgt := 31) d_T_addLine_24 (by decide) (fun c24 => ?_) (fun c24 => ?_)
    · refine jx_iconst (v := (-1)) d_T_addLine_31 (by decide) ?_
      exact jx_iret d_T_addLine_32 rfl (by omega) (by omega) (by rw [if_neg (fun q => by have := (nI_leI (by omega) (by omega)).mp c24; omega)] at k; exact k)
    · refine jx_iload_n (i := 1) d_T_addLine_27 rfl rfl ?_
      refine jx_goto (tgt := 32) d_T_addLine_28 (by decide) ?_
      exact jx_iret d_T_addLine_32 rfl (by omega) (by omega) (by rw [if_pos (by rcases Nat.lt_or_ge c li with q | q; exact q; exact absurd ((nI_leI (by omega) (by omega)).mpr q) c24)] at k; exact k)
theorem c_T_set {i j : Nat} (hi : i * wi + j < li * wi) (hl : li * wi ≤ 5000) (h : M a = some (kf_T c li wi ca)) (hf : M ca = some (kf_la (li * wi) w)) (k : Z none (jx_up M ca (kf_la (li * wi) (vp_updL w (i * wi + j) x))) sz) : jx_Cr md_T_set G d [.ref a, .int (nI i), .int (nI j), .long x] M sz 0 0 Z := by
  refine jx_ent rfl (Nat.le_of_ble_eq_true rfl) (l := [some (.ref a), some (.int (nI i)), some (.int (nI j)), some (.long x), none]) (by simp [jx_le, jx_eas, Value.category]) (fun hlt => ?_)
  refine jx_aload_n (i := 0) d_T_set_0 rfl rfl ?_
  refine jx_getf d_T_set_1 gf_T_21 h rfl ?_
  refine jx_iload_n (i := 1) d_T_set_4 rfl rfl ?_
  refine jx_aload_n (i := 0) d_T_set_5 rfl rfl ?_
  refine jx_getf d_T_set_6 gf_T_18 h rfl ?_
  refine jx_imul d_T_set_9 ?_
  refine jx_iload_n (i := 2) d_T_set_10 rfl rfl ?_
  refine jx_iadd d_T_set_11 ?_
  rw [pk_mul, nI_add]
  refine jx_lload_n (i := 3) d_T_set_12 rfl rfl ?_
  refine jx_last (t0 := 1) d_T_set_13 hf rfl (vp_in_nI (by omega) (by omega)) ?_
  exact jx_vret d_T_set_14 rfl (by omega) (by omega) (by rw [nI_clamp (by omega)]; exact k)
theorem c_T_cell {i j : Nat} (hi : i * wi + j < li * wi) (hl : li * wi ≤ 5000) (h : M a = some (kf_T c li wi ca)) (hf : M ca = some (kf_la (li * wi) w)) (k : Z (some (.long (w (i * wi + j)))) M sz) : jx_Cr md_T_cell G d [.ref a, .int (nI i), .int (nI j)] M sz 0 0 Z := by
  refine jx_ent rfl (Nat.le_of_ble_eq_true rfl) (l := [some (.ref a), some (.int (nI i)), some (.int (nI j))]) (by simp [jx_le, jx_eas, Value.category]) (fun hlt => ?_)
  refine jx_aload_n (i := 0) d_T_cell_0 rfl rfl ?_
  refine jx_getf d_T_cell_1 gf_T_21 h rfl ?_
  refine jx_iload_n (i := 1) d_T_cell_4 rfl rfl ?_
  refine jx_aload_n (i := 0) d_T_cell_5 rfl rfl ?_
  refine jx_getf d_T_cell_6 gf_T_18 h rfl ?_
  refine jx_imul d_T_cell_9 ?_
  refine jx_iload_n (i := 2) d_T_cell_10 rfl rfl ?_
  refine jx_iadd d_T_cell_11 ?_
  rw [pk_mul, nI_add]
  refine jx_lald (t0 := 1) d_T_cell_12 hf rfl (vp_in_nI (by omega) (by omega)) ?_
  exact jx_lret d_T_cell_13 rfl (by omega) (by omega) (by rw [nI_clamp (by omega)]; exact k)
end CT
