/-! PART 15: ArrayList.add and what it calls -/
theorem i_max {g p : Nat} (hg : g < 2 ^ 31) (hp : p < 2 ^ 31) : (if nI g < nI p then nI p else nI g) = nI (max g p) := by
  by_cases q : g < p
  · rw [if_pos (nI_lt q (by omega)), Nat.max_eq_right (by omega)]
  · rw [if_neg (nI_nlt (by omega) (by omega)), Nat.max_eq_left (by omega)]
theorem i_min {g p : Nat} (hg : g < 2 ^ 31) (hp : p < 2 ^ 31) : (if nI p < nI g then nI p else nI g) = nI (min g p) := by
  by_cases q : p < g
  · rw [if_pos (nI_lt q (by omega)), Nat.min_eq_right (by omega)]
  · rw [if_neg (nI_nlt (by omega) (by omega)), Nat.min_eq_left (by omega)]
section CA2
variable {G : jx_G} {d a ar sz n N v k : Nat} {mo : Int32} {f : Nat → Option Nat} {fs : List Value} {C0 : String} {T : u_T} {NN : Nat} {M : jx_H} {Z : Option Value → jx_H → Nat → Prop}
theorem c_AR_copyOf2 {N1 : Nat} (hd : 0 < d) (hN : N ≤ N1) (h1000 : N1 < 1000) (hf : M ar = some (kf_oa N f)) (hk : vwCl[k]? = some (C0, T, NN)) (hc : Cond.castable C0 "java/lang/Object" ∈ jx_nb) (hel : ∀ i, i < N → ∀ z, f i = some z → ∃ fs, M z = some (.inl (k, fs))) (kk : Z (some (.ref sz)) (jx_up M sz (kf_oa N1 (va_cpy f (fun _ => none) 0 0 N))) (sz + 1)) : jx_Cr md_AR_copyOf2 G d [.ref ar, .int (nI N1), .ref (jx_mi G)] M sz 1 N1 Z := by
  refine jx_ent rfl (Nat.le_of_ble_eq_true rfl) (l := [some (.ref ar), some (.int (nI N1)), some (.ref (jx_mi G)), none]) (by simp [jx_le, jx_eas, Value.category]) (fun hlt => ?_)
  have hne : ar ≠ sz := Nat.ne_of_lt (hlt ar _ hf)
  refine jx_aload_n (i := 2) d_AR_copyOf2_0 rfl rfl ?_
  refine jx_ldcM d_AR_copyOf2_1 (jx_mem 330 (by decide +kernel) rfl) ?_
  refine jx_acmp_ne (rx := some (jx_mi G)) (rz := some (jx_mi G)) (tgt := 13) d_AR_copyOf2_3 (by decide) (fun c => absurd rfl c) (fun _ => ?_)
  refine jx_iload_n (i := 1) d_AR_copyOf2_6 rfl rfl ?_
  refine jx_anew (N := N1) d_AR_copyOf2_7 (by decide +kernel) (jx_nbm 331 (by decide +kernel) rfl) (nI_pos (by omega)) (nI_clamp (by omega)) (by omega) (jx_rmc (by omega)) (jx_rms (by omega)) (fun hno => ?_)
  have hf2 : jx_up M sz (kf_oa N1 fun _ => none) ar = some (kf_oa N f) := (jx_up_n _ _ hne).trans hf
  refine jx_goto (tgt := 24) d_AR_copyOf2_10 (by decide) ?_
  refine jx_astore_n (i := 3) d_AR_copyOf2_24 rfl (Nat.le_of_ble_eq_true rfl) (jx_e4_3 (by trivial)) ?_
  refine jx_aload_n (i := 0) d_AR_copyOf2_25 rfl rfl ?_
  refine jx_iconst (v := 0) d_AR_copyOf2_26 (by decide) ?_
  refine jx_aload_n (i := 3) d_AR_copyOf2_27 rfl rfl ?_
  refine jx_iconst (v := 0) d_AR_copyOf2_28 (by decide) ?_
  refine jx_aload_n (i := 0) d_AR_copyOf2_29 rfl rfl ?_
  refine jx_alen (t0 := 2) d_AR_copyOf2_30 hf2 rfl ?_
  refine jx_iload_n (i := 1) d_AR_copyOf2_31 rfl rfl ?_
  refine jx_mmin d_AR_copyOf2_32 ms_AR_304.1.1 (Nat.succ_le_succ (Nat.zero_le _)) (jx_rmm (Nat.le_of_ble_eq_true rfl)) (jx_rmc (by omega)) (jx_rms (by omega)) ?_
  rw [i_min (by omega) (by omega), Nat.min_eq_left hN]
  refine jx_copyq (k := k) (C0 := C0) (n0 := N) (n1 := N1) d_AR_copyOf2_35 (jx_mem 334 (by decide +kernel) rfl) hk hc hf2 (jx_up_s _ _ _) (by decide) (by decide) (nI_pos (by omega)) (by rw [nI_clamp (by omega)]; show 0 + N ≤ N; omega) (by rw [nI_clamp (by omega)]; show 0 + N ≤ N1; omega) ?_ (Nat.succ_le_succ (Nat.zero_le _)) (by
      have hw : nativeFrameWords "java/lang/System" "arraycopy" 5 + 11 ≤ 100 := by decide
      show 0 + _ ≤ 32 * d + 100
      omega) ?_
  · intro i hi z hz
    rw [nI_clamp (by omega)] at hi
    have hz' : f i = some z := by
      have e : (0 : Int32).toNatClampNeg + i = i := by
        have : (0 : Int32).toNatClampNeg = 0 := by decide
        omega
      rw [e] at hz
      exact hz
    obtain ⟨fs, hfs⟩ := hel i hi z hz'
    exact ⟨fs, (jx_up_n _ _ (Nat.ne_of_lt (hlt z _ hfs))).trans hfs⟩
  · rw [nI_clamp (by omega), jx_up_u, show (0 : Int32).toNatClampNeg = 0 by decide]
    refine jx_aload_n (i := 3) d_AR_copyOf2_38 rfl rfl ?_
    exact jx_aret d_AR_copyOf2_39 rfl (Or.inr ⟨_, rfl⟩) (by omega) (by omega) kk
theorem c_AR_copyOf {N1 : Nat} (hd : 1 < d) (hN : N ≤ N1) (h1000 : N1 < 1000) (hf : M ar = some (kf_oa N f)) (hk : vwCl[k]? = some (C0, T, NN)) (hc : Cond.castable C0 "java/lang/Object" ∈ jx_nb) (hel : ∀ i, i < N → ∀ z, f i = some z → ∃ fs, M z = some (.inl (k, fs))) (kk : Z (some (.ref sz)) (jx_up M sz (kf_oa N1 (va_cpy f (fun _ => none) 0 0 N))) (sz + 1)) : jx_Cr md_AR_copyOf G d [.ref ar, .int (nI N1)] M sz 1 N1 Z := by
  refine jx_ent rfl (Nat.le_of_ble_eq_true rfl) (l := [some (.ref ar), some (.int (nI N1))]) (by simp [jx_le, jx_eas, Value.category]) (fun hlt => ?_)
  refine jx_aload_n (i := 0) d_AR_copyOf_0 rfl rfl ?_
  refine jx_iload_n (i := 1) d_AR_copyOf_1 rfl rfl ?_
  refine jx_aload_n (i := 0) d_AR_copyOf_2 rfl rfl ?_
  refine jx_getC d_AR_copyOf_3 (jx_mem 313 (by decide +kernel) rfl) hf (Nat.succ_le_succ (Nat.zero_le _)) (by show 1 + (1 + 0) + 14 ≤ 32 * d + 100; omega) ?_
  refine jx_callS3 d_AR_copyOf_6 ms_AR_300 (jx_ok_rm (by omega) (Nat.le_of_ble_eq_true rfl)) (Nat.le_of_ble_eq_true rfl) (jx_rmc (by omega)) (jx_rms (by omega)) (c_AR_copyOf2 (d := 1) (by omega) hN h1000 hf hk hc hel ?_)
  dsimp only [Option.toList, List.cons_append, List.nil_append]
  exact jx_aret d_AR_copyOf_9 rfl (Or.inr ⟨_, rfl⟩) (by omega) (by omega) kk
/-- the first of all: ten places are made -/
theorem c_A_grow2_first (hd : 0 < d) (h : M a = some (kf_A mo (jx_ea G) 0)) (kk : Z (some (.ref sz)) (jx_up (jx_up M sz (kf_oa 10 (fun _ => none))) a (kf_A mo sz 0)) (sz + 1)) : jx_Cr md_A_grow2 G d [.ref a, .int (nI 1)] M sz 1 10 Z := by
  refine jx_ent rfl (Nat.le_of_ble_eq_true rfl) (l := [some (.ref a), some (.int (nI 1)), none, none]) (by simp [jx_le, jx_eas, Value.category]) (fun hlt => ?_)
  have hne : a ≠ sz := Nat.ne_of_lt (hlt a _ h)
  refine jx_aload_n (i := 0) d_A_grow2_0 rfl rfl ?_
  refine jx_getf d_A_grow2_1 gf_A_9 h rfl ?_
  refine jx_tlen d_A_grow2_4 ?_
  refine jx_istore_n (i := 2) d_A_grow2_5 rfl (Nat.le_of_ble_eq_true rfl) (jx_e4_2 (by trivial)) ?_
  refine jx_iload_n (i := 2) d_A_grow2_6 rfl rfl ?_
  refine jx_if_gt (tgt := 20) d_A_grow2_7 (by decide) (fun c7 => ?_) (fun c7 => ?_)
  · exact absurd c7 (by decide)
  · refine jx_aload_n (i := 0) d_A_grow2_10 rfl rfl ?_
    refine jx_getf d_A_grow2_11 gf_A_9 h rfl ?_
    refine jx_gets0 d_A_grow2_14 (jx_mem 42 (by decide +kernel) rfl) ?_
    refine jx_acmp_eq (rx := some (jx_ea G)) (rz := some (jx_ea G)) (tgt := 45) d_A_grow2_17 (by decide) (fun _ => ?_) (fun c => absurd rfl c)
    refine jx_aload_n (i := 0) d_A_grow2_45 rfl rfl ?_
    refine jx_bipush (v := 10) d_A_grow2_46 (by decide) ?_
    refine jx_iload_n (i := 1) d_A_grow2_48 rfl rfl ?_
    refine jx_mmax d_A_grow2_49 ms_A_79.1.1 (Nat.succ_le_succ (Nat.zero_le _)) (jx_rmm (Nat.le_of_ble_eq_true rfl)) (jx_rmc (by omega)) (jx_rms (by omega)) ?_
    rw [show (if (10 : Int32) < nI 1 then nI 1 else (10 : Int32)) = nI 10 by decide]
    refine jx_anew (N := 10) d_A_grow2_52 (by decide +kernel) (jx_nbm 331 (by decide +kernel) rfl) (by decide) (by decide) (by decide) (jx_rmc (by omega)) (jx_rms (by omega)) (fun hno => ?_)
    refine jx_dup_x1 d_A_grow2_55 rfl rfl ?_
    refine jx_putf d_A_grow2_56 pf_A_9 ((jx_up_n _ _ hne).trans h) (Nat.le_of_ble_eq_true rfl) rfl rfl ?_
    exact jx_aret d_A_grow2_59 rfl (Or.inr ⟨_, rfl⟩) (by omega) (by omega) kk
/-- the array is full: n + max 1 (n / 2) places are made -/
theorem c_A_grow2_full (hd : 2 < d) (hN0 : 0 < N) (hN : N < 500) (h : M a = some (kf_A mo ar n)) (hf : M ar = some (kf_oa N f)) (hk : vwCl[k]? = some (C0, T, NN)) (hc : Cond.castable C0 "java/lang/Object" ∈ jx_nb) (hel : ∀ i, i < N → ∀ z, f i = some z → ∃ fs, M z = some (.inl (k, fs))) (kk : Z (some (.ref sz)) (jx_up (jx_up M sz (kf_oa (N + max 1 (N / 2)) (va_cpy f (fun _ => none) 0 0 N))) a (kf_A mo sz n)) (sz + 1)) : jx_Cr md_A_grow2 G d [.ref a, .int (nI (N + 1))] M sz 1 (N + max 1 (N / 2)) Z := by
  refine jx_ent rfl (Nat.le_of_ble_eq_true rfl) (l := [some (.ref a), some (.int (nI (N + 1))), none, none]) (by simp [jx_le, jx_eas, Value.category]) (fun hlt => ?_)
  have hne : a ≠ sz := Nat.ne_of_lt (hlt a _ h)
  have hm : max 1 (N / 2) < 500 := by omega
  refine jx_aload_n (i := 0) d_A_grow2_0 rfl rfl ?_
  refine jx_getf d_A_grow2_1 gf_A_9 h rfl ?_
  refine jx_alen (t0 := 2) d_A_grow2_4 hf rfl ?_
  refine jx_istore_n (i := 2) d_A_grow2_5 rfl (Nat.le_of_ble_eq_true rfl) (jx_e4_2 (by trivial)) ?_
  refine jx_iload_n (i := 2) d_A_grow2_6 rfl rfl ?_
  refine jx_if_gt (tgt := 20) d_A_grow2_7 (by decide) (fun c7 => ?_) (fun c7 => ?_)
  · refine jx_iload_n (i := 2) d_A_grow2_20 rfl rfl ?_
    refine jx_iload_n (i := 1) d_A_grow2_21 rfl rfl ?_
    refine jx_iload_n (i := 2) d_A_grow2_22 rfl rfl ?_
    refine jx_isub d_A_grow2_23 ?_
    refine jx_iload_n (i := 2) d_A_grow2_24 rfl rfl ?_
    refine jx_iconst (v := 1) d_A_grow2_25 (by decide) ?_
    refine jx_ishr d_A_grow2_26 ?_
    rw [show nI (N + 1) - nI N = nI 1 by rw [pk_sub (by omega)]; congr 1; omega, show nI N >>> ((1 : Int32) &&& 31) = nI (N / 2) by
      have := pk_shrN (n := N) (by omega) ((1 : Int32) &&& 31) 1 (by decide)
      simpa using this]
    refine jx_callS3 d_A_grow2_27 ms_A_73 (jx_ok_rm (by omega) (Nat.le_of_ble_eq_true rfl)) (Nat.le_of_ble_eq_true rfl) (jx_rmc (by omega)) (jx_rms (by omega)) (c_AS_newLength (d := 1) (by omega) (by omega) (by omega) (by omega) (by omega) ?_)
    dsimp only [Option.toList, List.cons_append, List.nil_append]
    refine jx_istore_n (i := 3) d_A_grow2_30 rfl (Nat.le_of_ble_eq_true rfl) (jx_e4_3 (by trivial)) ?_
    refine jx_aload_n (i := 0) d_A_grow2_31 rfl rfl ?_
    refine jx_aload_n (i := 0) d_A_grow2_32 rfl rfl ?_
    refine jx_getf d_A_grow2_33 gf_A_9 h rfl ?_
    refine jx_iload_n (i := 3) d_A_grow2_36 rfl rfl ?_
    refine jx_callS2 d_A_grow2_37 ms_A_66 (jx_ok_rm (by omega) (Nat.le_of_ble_eq_true rfl)) (Nat.le_of_ble_eq_true rfl) (jx_rmc (by omega)) (jx_rms (by omega)) (c_AR_copyOf (d := 2) (by omega) (by omega) (by omega) hf hk hc hel ?_)
    dsimp only [Option.toList, List.cons_append, List.nil_append]
    refine jx_dup_x1 d_A_grow2_40 rfl rfl ?_
    refine jx_putf d_A_grow2_41 pf_A_9 ((jx_up_n _ _ hne).trans h) (Nat.le_of_ble_eq_true rfl) rfl rfl ?_
    exact jx_aret d_A_grow2_44 rfl (Or.inr ⟨_, rfl⟩) (by omega) (by omega) kk
  · exact absurd (nI_lt (a := 0) hN0 (by omega)) c7
theorem c_A_grow_first (hd : 1 < d) (h : M a = some (kf_A mo (jx_ea G) 0)) (kk : Z (some (.ref sz)) (jx_up (jx_up M sz (kf_oa 10 (fun _ => none))) a (kf_A mo sz 0)) (sz + 1)) : jx_Cr md_A_grow G d [.ref a] M sz 1 10 Z := by
  refine jx_ent rfl (Nat.le_of_ble_eq_true rfl) (l := [some (.ref a)]) (by simp [jx_le, jx_eas, Value.category]) (fun hlt => ?_)
  refine jx_aload_n (i := 0) d_A_grow_0 rfl rfl ?_
  refine jx_aload_n (i := 0) d_A_grow_1 rfl rfl ?_
  refine jx_getf d_A_grow_2 gf_A_48 h rfl ?_
  refine jx_iconst (v := 1) d_A_grow_5 (by decide) ?_
  refine jx_iadd d_A_grow_6 ?_
  refine jx_callV1 d_A_grow_7 mv_A_69 h rfl (jx_ok_rm (by omega) (Nat.le_of_ble_eq_true rfl)) (Nat.le_of_ble_eq_true rfl) (jx_rmc (by omega)) (jx_rms (by omega)) (c_A_grow2_first (d := 1) (by omega) h ?_)
  dsimp only [Option.toList, List.cons_append, List.nil_append]
  exact jx_aret d_A_grow_10 rfl (Or.inr ⟨_, rfl⟩) (by omega) (by omega) kk
theorem c_A_grow_full (hd : 3 < d) (hN0 : 0 < N) (hN : N < 500) (h : M a = some (kf_A mo ar N)) (hf : M ar = some (kf_oa N f)) (hk : vwCl[k]? = some (C0, T, NN)) (hc : Cond.castable C0 "java/lang/Object" ∈ jx_nb) (hel : ∀ i, i < N → ∀ z, f i = some z → ∃ fs, M z = some (.inl (k, fs))) (kk : Z (some (.ref sz)) (jx_up (jx_up M sz (kf_oa (N + max 1 (N / 2)) (va_cpy f (fun _ => none) 0 0 N))) a (kf_A mo sz N)) (sz + 1)) : jx_Cr md_A_grow G d [.ref a] M sz 1 (N + max 1 (N / 2)) Z := by
  refine jx_ent rfl (Nat.le_of_ble_eq_true rfl) (l := [some (.ref a)]) (by simp [jx_le, jx_eas, Value.category]) (fun hlt => ?_)
  refine jx_aload_n (i := 0) d_A_grow_0 rfl rfl ?_
  refine jx_aload_n (i := 0) d_A_grow_1 rfl rfl ?_
  refine jx_getf d_A_grow_2 gf_A_48 h rfl ?_
  refine jx_iconst (v := 1) d_A_grow_5 (by decide) ?_
  refine jx_iadd d_A_grow_6 ?_
  rw [nI_1]
  refine jx_callV1 d_A_grow_7 mv_A_69 h rfl (jx_ok_rm (by omega) (Nat.le_of_ble_eq_true rfl)) (Nat.le_of_ble_eq_true rfl) (jx_rmc (by omega)) (jx_rms (by omega)) (c_A_grow2_full (d := 3) (by omega) hN0 hN h hf hk hc hel ?_)
  dsimp only [Option.toList, List.cons_append, List.nil_append]
  exact jx_aret d_A_grow_10 rfl (Or.inr ⟨_, rfl⟩) (by omega) (by omega) kk
/-- a list of n objects of class number k, at the places el -/
def kf_L (G : jx_G) (M : jx_H) (k a ar n : Nat) (el : Nat → Nat) : Prop := (∃ mo, M a = some (kf_A mo ar n)) ∧ ((n = 0 ∧ ar = jx_ea G) ∨ ∃ (N : Nat) (f : Nat → Option Nat), M ar = some (kf_oa N f) ∧ 0 < N ∧ n ≤ N ∧ N < 100 ∧ (∀ i, i < n → f i = some (el i)) ∧ ∀ i, n ≤ i → i < N → f i = none)
end CA2
