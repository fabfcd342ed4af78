/-! PART 16: ArrayList.add -/
section CA3
variable {G : jx_G} {d a ar sz n N v k : Nat} {mo : Int32} {f : Nat → Option Nat} {fs : List Value} {C0 : String} {T : u_T} {NN : Nat} {M : jx_H} {Z : Option Value → jx_H → Nat → Prop}
theorem c_A_add2_room (hn : n < N) (hN : N < 1000) (h : M a = some (kf_A mo ar n)) (hf : M ar = some (kf_oa N f)) (hv : M v = some (.inl (k, fs))) (hk : vwCl[k]? = some (C0, T, NN)) (hc : Cond.castable C0 "java/lang/Object" ∈ jx_nb) (hne : a ≠ ar) (kk : Z none (jx_up (jx_up M ar (kf_oa N (va_up f n (some v)))) a (kf_A mo ar (n + 1))) sz) : jx_Cr md_A_add2 G d [.ref a, .ref v, .ref ar, .int (nI n)] M sz 0 0 Z := by
  refine jx_ent rfl (Nat.le_of_ble_eq_true rfl) (l := [some (.ref a), some (.ref v), some (.ref ar), some (.int (nI n))]) (by simp [jx_le, jx_eas, Value.category]) (fun hlt => ?_)
  refine jx_iload_n (i := 3) d_A_add2_0 rfl rfl ?_
  refine jx_aload_n (i := 2) d_A_add2_1 rfl rfl ?_
  refine jx_alen (t0 := 2) d_A_add2_2 hf rfl ?_
  refine jx_icmp_ne (tgt := 11) d_A_add2_3 (by decide) (fun c3 => ?_) (fun c3 => ?_)
  · refine jx_aload_n (i := 2) d_A_add2_11 rfl rfl ?_
    refine jx_iload_n (i := 3) d_A_add2_12 rfl rfl ?_
    refine jx_aload_n (i := 1) d_A_add2_13 rfl rfl ?_
    refine jx_aast d_A_add2_14 hf hv hk hc (vp_in_nI hn (by omega)) ?_
    rw [nI_clamp (by omega)]
    refine jx_aload_n (i := 0) d_A_add2_15 rfl rfl ?_
    refine jx_iload_n (i := 3) d_A_add2_16 rfl rfl ?_
    refine jx_iconst (v := 1) d_A_add2_17 (by decide) ?_
    refine jx_iadd d_A_add2_18 ?_
    rw [nI_1]
    refine jx_putf d_A_add2_19 pf_A_48 ((jx_up_n _ _ hne).trans h) (Nat.le_of_ble_eq_true rfl) rfl rfl ?_
    exact jx_vret d_A_add2_22 rfl (by omega) (by omega) kk
  · exact absurd ((nI_eq (by omega) (by omega)).mp c3) (by omega)
theorem c_A_add2_full (hd : 4 < d) (hN0 : 0 < n) (hN : n < 500) (h : M a = some (kf_A mo ar n)) (hf : M ar = some (kf_oa n f)) (hv : M v = some (.inl (k, fs))) (hk : vwCl[k]? = some (C0, T, NN)) (hc : Cond.castable C0 "java/lang/Object" ∈ jx_nb) (hel : ∀ i, i < n → ∀ z, f i = some z → ∃ fs, M z = some (.inl (k, fs))) (hva : v ≠ a) (kk : Z none (jx_up (jx_up M sz (kf_oa (n + max 1 (n / 2)) (va_up (va_cpy f (fun _ => none) 0 0 n) n (some v)))) a (kf_A mo sz (n + 1))) (sz + 1)) : jx_Cr md_A_add2 G d [.ref a, .ref v, .ref ar, .int (nI n)] M sz 1 (n + max 1 (n / 2)) Z := by
  refine jx_ent rfl (Nat.le_of_ble_eq_true rfl) (l := [some (.ref a), some (.ref v), some (.ref ar), some (.int (nI n))]) (by simp [jx_le, jx_eas, Value.category]) (fun hlt => ?_)
  have hne : a ≠ sz := Nat.ne_of_lt (hlt a _ h)
  have hvs : v ≠ sz := Nat.ne_of_lt (hlt v _ hv)
  have hm : max 1 (n / 2) < 500 := by omega
  refine jx_iload_n (i := 3) d_A_add2_0 rfl rfl ?_
  refine jx_aload_n (i := 2) d_A_add2_1 rfl rfl ?_
  refine jx_alen (t0 := 2) d_A_add2_2 hf rfl ?_
  refine jx_icmp_ne (tgt := 11) d_A_add2_3 (by decide) (fun c3 => ?_) (fun c3 => ?_)
  · exact absurd rfl c3
  · refine jx_aload_n (i := 0) d_A_add2_6 rfl rfl ?_
    refine jx_callV0 d_A_add2_7 mv_A_129 h rfl (jx_ok_rm (by omega) (Nat.le_of_ble_eq_true rfl)) (Nat.le_of_ble_eq_true rfl) (jx_rmc (by omega)) (jx_rms (by omega)) (c_A_grow_full (d := 4) (by omega) hN0 hN h hf hk hc hel ?_)
    dsimp only [Option.toList, List.cons_append, List.nil_append]
    refine jx_astore_n (i := 2) d_A_add2_10 rfl (Nat.le_of_ble_eq_true rfl) (jx_e4_2 (by trivial)) ?_
    refine jx_aload_n (i := 2) d_A_add2_11 rfl rfl ?_
    refine jx_iload_n (i := 3) d_A_add2_12 rfl rfl ?_
    refine jx_aload_n (i := 1) d_A_add2_13 rfl rfl ?_
    refine jx_aast (n := n + max 1 (n / 2)) (f := va_cpy f (fun _ => none) 0 0 n) (k := k) (fs := fs) d_A_add2_14 ((jx_up_n _ _ (Ne.symm hne)).trans (jx_up_s _ _ _)) ((jx_up_n _ _ hva).trans ((jx_up_n _ _ hvs).trans hv)) hk hc (vp_in_nI (by omega) (by omega)) ?_
    rw [nI_clamp (by omega), jx_up_c _ _ _ hne, jx_up_u]
    refine jx_aload_n (i := 0) d_A_add2_15 rfl rfl ?_
    refine jx_iload_n (i := 3) d_A_add2_16 rfl rfl ?_
    refine jx_iconst (v := 1) d_A_add2_17 (by decide) ?_
    refine jx_iadd d_A_add2_18 ?_
    rw [nI_1]
    refine jx_putf d_A_add2_19 pf_A_48 (jx_up_s _ _ _) (Nat.le_of_ble_eq_true rfl) rfl rfl ?_
    exact jx_vret d_A_add2_22 rfl (by omega) (by omega) (by rw [jx_up_u]; exact kk)
theorem c_A_add2_first (hd : 2 < d) (h : M a = some (kf_A mo (jx_ea G) 0)) (hv : M v = some (.inl (k, fs))) (hk : vwCl[k]? = some (C0, T, NN)) (hc : Cond.castable C0 "java/lang/Object" ∈ jx_nb) (hva : v ≠ a) (kk : Z none (jx_up (jx_up M sz (kf_oa 10 (va_up (fun _ => none) 0 (some v)))) a (kf_A mo sz 1)) (sz + 1)) : jx_Cr md_A_add2 G d [.ref a, .ref v, .ref (jx_ea G), .int (nI 0)] M sz 1 10 Z := by
  refine jx_ent rfl (Nat.le_of_ble_eq_true rfl) (l := [some (.ref a), some (.ref v), some (.ref (jx_ea G)), some (.int (nI 0))]) (by simp [jx_le, jx_eas, Value.category]) (fun hlt => ?_)
  have hne : a ≠ sz := Nat.ne_of_lt (hlt a _ h)
  have hvs : v ≠ sz := Nat.ne_of_lt (hlt v _ hv)
  refine jx_iload_n (i := 3) d_A_add2_0 rfl rfl ?_
  refine jx_aload_n (i := 2) d_A_add2_1 rfl rfl ?_
  refine jx_tlen d_A_add2_2 ?_
  refine jx_icmp_ne (tgt := 11) d_A_add2_3 (by decide) (fun c3 => ?_) (fun c3 => ?_)
  · exact absurd rfl c3
  · refine jx_aload_n (i := 0) d_A_add2_6 rfl rfl ?_
    refine jx_callV0 d_A_add2_7 mv_A_129 h rfl (jx_ok_rm (by omega) (Nat.le_of_ble_eq_true rfl)) (Nat.le_of_ble_eq_true rfl) (jx_rmc (by omega)) (jx_rms (by omega)) (c_A_grow_first (d := 2) (by omega) h ?_)
    dsimp only [Option.toList, List.cons_append, List.nil_append]
    refine jx_astore_n (i := 2) d_A_add2_10 rfl (Nat.le_of_ble_eq_true rfl) (jx_e4_2 (by trivial)) ?_
    refine jx_aload_n (i := 2) d_A_add2_11 rfl rfl ?_
    refine jx_iload_n (i := 3) d_A_add2_12 rfl rfl ?_
    refine jx_aload_n (i := 1) d_A_add2_13 rfl rfl ?_
    refine jx_aast (n := 10) (f := fun _ => none) (k := k) (fs := fs) d_A_add2_14 ((jx_up_n _ _ (Ne.symm hne)).trans (jx_up_s _ _ _)) ((jx_up_n _ _ hva).trans ((jx_up_n _ _ hvs).trans hv)) hk hc (by unfold vp_in; decide) ?_
    rw [nI_clamp (by omega), jx_up_c _ _ _ hne, jx_up_u]
    refine jx_aload_n (i := 0) d_A_add2_15 rfl rfl ?_
    refine jx_iload_n (i := 3) d_A_add2_16 rfl rfl ?_
    refine jx_iconst (v := 1) d_A_add2_17 (by decide) ?_
    refine jx_iadd d_A_add2_18 ?_
    rw [nI_1]
    refine jx_putf d_A_add2_19 pf_A_48 (jx_up_s _ _ _) (Nat.le_of_ble_eq_true rfl) rfl rfl ?_
    exact jx_vret d_A_add2_22 rfl (by omega) (by omega) (by rw [jx_up_u]; exact kk)
theorem c_A_add {el : Nat → Nat} (hd : 5 < d) (hn : n ≤ 30) (hL : kf_L G M k a ar n el) (hv : M v = some (.inl (k, fs))) (hk : vwCl[k]? = some (C0, T, NN)) (hk6 : k ≠ 6) (hc : Cond.castable C0 "java/lang/Object" ∈ jx_nb) (hel : ∀ i, i < n → ∃ fs, M (el i) = some (.inl (k, fs)))
    (kk : ∀ M' sz' ar', kf_L G M' k a ar' (n + 1) (va_up el n v) → (∀ q, q ≠ a → q ≠ ar → q < sz → M' q = M q) → (ar' = ar ∨ ar' = sz) → sz ≤ sz' → sz' ≤ sz + 1 → (∀ q e, M' q = some e → q < sz') → Z (some (.int 1)) M' sz') : jx_Cr md_A_add G d [.ref a, .ref v] M sz 1 45 Z := by
  refine jx_ent rfl (Nat.le_of_ble_eq_true rfl) (l := [some (.ref a), some (.ref v)]) (by simp [jx_le, jx_eas, Value.category]) (fun hlt => ?_)
  obtain ⟨⟨mo, h⟩, hL⟩ := hL
  have hne : a ≠ sz := Nat.ne_of_lt (hlt a _ h)
  have hvs : v ≠ sz := Nat.ne_of_lt (hlt v _ hv)
  have hva : v ≠ a := by
    intro q
    rw [q, h] at hv
    simp at hv
    exact hk6 hv.1.symm
  refine jx_aload_n (i := 0) d_A_add_0 rfl rfl ?_
  refine jx_dup d_A_add_1 rfl ?_
  refine jx_getf d_A_add_2 gf_A_63 h rfl ?_
  refine jx_iconst (v := 1) d_A_add_5 (by decide) ?_
  refine jx_iadd d_A_add_6 ?_
  refine jx_putf d_A_add_7 pf_A_63 h (Nat.le_of_ble_eq_true rfl) rfl rfl ?_
  refine jx_aload_n (i := 0) d_A_add_10 rfl rfl ?_
  refine jx_aload_n (i := 1) d_A_add_11 rfl rfl ?_
  refine jx_aload_n (i := 0) d_A_add_12 rfl rfl ?_
  refine jx_getf d_A_add_13 gf_A_9 (jx_up_s _ _ _) rfl ?_
  refine jx_aload_n (i := 0) d_A_add_16 rfl rfl ?_
  refine jx_getf d_A_add_17 gf_A_48 (jx_up_s _ _ _) rfl ?_
  have h1 : jx_up M a (kf_A (mo + 1) ar n) a = some (kf_A (mo + 1) ar n) := jx_up_s _ _ _
  have hv1 : jx_up M a (kf_A (mo + 1) ar n) v = some (.inl (k, fs)) := (jx_up_n _ _ hva).trans hv
  rcases hL with ⟨rfl, rfl⟩ | ⟨N, f, hf, hN0, hnN, hN100, hfe, hfn⟩
  · refine jx_callV3 d_A_add_20 mv_A_131 h1 rfl (jx_ok_rm (by omega) (Nat.le_of_ble_eq_true rfl)) (Nat.le_of_ble_eq_true rfl) (jx_rmc (by omega)) (jx_rms (by omega)) (c_A_add2_first (d := 5) (by omega) h1 hv1 hk hc hva ?_)
    dsimp only [Option.toList, List.cons_append, List.nil_append]
    refine jx_wi (kc' := 1) (ks' := 45) (by omega) (by omega) ?_
    refine jx_iconst (v := 1) d_A_add_23 (by decide) ?_
    exact jx_zret d_A_add_24 rfl (by first | exact Or.inl rfl | exact Or.inr rfl) (by omega) (by omega) (by
      refine kk _ (sz + 1) sz ⟨⟨mo + 1, jx_up_s _ _ _⟩, Or.inr ⟨10, _, (jx_up_n _ _ (Ne.symm hne)).trans (jx_up_s _ _ _), by omega, by omega, by omega, ?_, ?_⟩⟩ ?_ (Or.inr rfl) (by omega) (by omega) ?_
      · intro i hi
        have : i = 0 := by omega
        subst this
        simp [va_up]
      · intro i hi hi2
        simp [va_up, show i ≠ 0 by omega]
      · intro q q1 q2 q3
        rw [jx_up_n _ _ q1, jx_up_n _ _ (by omega), jx_up_n _ _ q1]
      · intro q e hq
        by_cases q1 : q = a
        · subst q1
          have := hlt q _ h
          omega
        · rw [jx_up_n _ _ q1] at hq
          by_cases q2 : q = sz
          · omega
          · rw [jx_up_n _ _ q2, jx_up_n _ _ q1] at hq
            have := hlt q e hq
            omega)
  · have har : ar ≠ a := by
      intro q
      rw [q, h] at hf
      simp at hf
    have hars : ar ≠ sz := Nat.ne_of_lt (hlt ar _ hf)
    have hf1 : jx_up M a (kf_A (mo + 1) ar n) ar = some (kf_oa N f) := (jx_up_n _ _ har).trans hf
    rcases Nat.lt_or_ge n N with hlN | hgN
    · refine jx_callV3 d_A_add_20 mv_A_131 h1 rfl (jx_ok_rm (by omega) (Nat.le_of_ble_eq_true rfl)) (Nat.le_of_ble_eq_true rfl) (jx_rmc (by omega)) (jx_rms (by omega)) (c_A_add2_room (d := 5) hlN (by omega) h1 hf1 hv1 hk hc (Ne.symm har) ?_)
      dsimp only [Option.toList, List.cons_append, List.nil_append]
      refine jx_wi (kc' := 1) (ks' := 45) (by omega) (by omega) ?_
      refine jx_iconst (v := 1) d_A_add_23 (by decide) ?_
      exact jx_zret d_A_add_24 rfl (by first | exact Or.inl rfl | exact Or.inr rfl) (by omega) (by omega) (by
        refine kk _ sz ar ⟨⟨mo + 1, jx_up_s _ _ _⟩, Or.inr ⟨N, _, (jx_up_n _ _ har).trans (jx_up_s _ _ _), by omega, by omega, by omega, ?_, ?_⟩⟩ ?_ (Or.inl rfl) (by omega) (by omega) ?_
        · intro i hi
          by_cases e : i = n
          · simp [va_up, e]
          · simp [va_up, e, hfe i (by omega)]
        · intro i hi hi2
          simp [va_up, show i ≠ n by omega, hfn i (by omega) hi2]
        · intro q q1 q2 q3
          rw [jx_up_n _ _ q1, jx_up_n _ _ q2, jx_up_n _ _ q1]
        · intro q e hq
          by_cases q1 : q = a
          · subst q1
            exact hlt q _ h
          · rw [jx_up_n _ _ q1] at hq
            by_cases q2 : q = ar
            · subst q2
              exact hlt q _ hf
            · rw [jx_up_n _ _ q2, jx_up_n _ _ q1] at hq
              exact hlt q e hq)
    · have eN : N = n := by omega
      subst eN
      have hel1 : ∀ i, i < N → ∀ z, f i = some z → ∃ fs, jx_up M a (kf_A (mo + 1) ar N) z = some (.inl (k, fs)) := by
        intro i hi z hz
        rw [hfe i hi] at hz
        cases hz
        obtain ⟨fs, hfs⟩ := hel i hi
        refine ⟨fs, (jx_up_n _ _ ?_).trans hfs⟩
        intro q
        rw [q, h] at hfs
        simp at hfs
        exact hk6 hfs.1.symm
      refine jx_callV3 d_A_add_20 mv_A_131 h1 rfl (jx_ok_rm (by omega) (Nat.le_of_ble_eq_true rfl)) (Nat.le_of_ble_eq_true rfl) (jx_rmc (by omega)) (jx_rms (by omega)) (c_A_add2_full (d := 5) (by omega) hN0 (by omega) h1 hf1 hv1 hk hc hel1 hva ?_)
      dsimp only [Option.toList, List.cons_append, List.nil_append]
      refine jx_wi (kc' := 1) (ks' := 45) (by omega) (by omega) ?_
      refine jx_iconst (v := 1) d_A_add_23 (by decide) ?_
      exact jx_zret d_A_add_24 rfl (by first | exact Or.inl rfl | exact Or.inr rfl) (by omega) (by omega) (by
        refine kk _ (sz + 1) sz ⟨⟨mo + 1, jx_up_s _ _ _⟩, Or.inr ⟨N + max 1 (N / 2), _, (jx_up_n _ _ (Ne.symm hne)).trans (jx_up_s _ _ _), by omega, by omega, by omega, ?_, ?_⟩⟩ ?_ (Or.inr rfl) (by omega) (by omega) ?_
        · intro i hi
          by_cases e : i = N
          · simp [va_up, e]
          · simp [va_up, va_cpy, e, show i < N by omega, hfe i (by omega)]
        · intro i hi hi2
          simp [va_up, va_cpy, show i ≠ N by omega, show ¬ i < N by omega]
        · intro q q1 q2 q3
          rw [jx_up_n _ _ q1, jx_up_n _ _ (by omega), jx_up_n _ _ q1]
        · intro q e hq
          by_cases q1 : q = a
          · subst q1
            have := hlt q _ h
            omega
          · rw [jx_up_n _ _ q1] at hq
            by_cases q2 : q = sz
            · omega
            · rw [jx_up_n _ _ q2, jx_up_n _ _ q1] at hq
              have := hlt q e hq
              omega)
end CA3
