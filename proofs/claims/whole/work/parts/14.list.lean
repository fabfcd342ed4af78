/-! PART 14: Math, and ArrayList -/
theorem i_nlt {x z : Int32} (h : ¬ x < z) : z ≤ x := Int32.not_lt.mp h
def sp_abs (u : Int64) : Int64 := if 0 < u then u else -u
theorem jx_rmm {d mc ms k : Nat} (h : k + 15 ≤ 100) : k + 15 ≤ (jx_rm d mc ms).locals := Nat.le_trans h (Nat.le_add_left _ _)
section CMA
variable {y : jx_md} {hh : jx_h4} {G : jx_G} {R : Room} {Q : Array Value → State → List Frame → State → Prop} {pc : Nat} {l : List (Option Value)} {st : List Value} {M : jx_H} {sz kc ks : Nat}
theorem jx_mmax {idx : Nat} {x z : Int32} (dc : decode y.2.1 pc = .ok (.invokestatic idx, 3)) (lk : Cond.methodLink y.1.cls idx Lib.Math.max.name ∈ jx_tb) (h1 : 1 ≤ R.frames) (h2 : (st.map fun v => v.category).sum + 15 ≤ R.locals) (hc : kc ≤ R.cells) (hs : ks ≤ R.slots) (kk : jx_V y hh G R Q (pc + 3) l (.int (if x < z then z else x) :: st) M sz kc ks) : jx_V y hh G R Q pc l (.int z :: .int x :: st) M sz kc ks := by
  intro p L e s m args below meth c C K H locs ls hR hS hL
  obtain ⟨hx, hb, hr, hml, hown, hts, hlk, hnm, hex, hst⟩ := id C
  exact va_mmax hx hb (hml.trans hL.1.symm) hown (hts _ lk) (hts _ (jx_mem 99 (by decide +kernel) rfl)) (hts _ (jx_mem 7 (by decide +kernel) rfl)) (hts _ (jx_mem 100 (by decide +kernel) rfl)) h1 (by omega) hc hs dc (kk p L e s m args below meth c C K H locs ls hR hS hL)
theorem jx_mmin {idx : Nat} {x z : Int32} (dc : decode y.2.1 pc = .ok (.invokestatic idx, 3)) (lk : Cond.methodLink y.1.cls idx Lib.Math.min.name ∈ jx_tb) (h1 : 1 ≤ R.frames) (h2 : (st.map fun v => v.category).sum + 15 ≤ R.locals) (hc : kc ≤ R.cells) (hs : ks ≤ R.slots) (kk : jx_V y hh G R Q (pc + 3) l (.int (if z < x then z else x) :: st) M sz kc ks) : jx_V y hh G R Q pc l (.int z :: .int x :: st) M sz kc ks := by
  intro p L e s m args below meth c C K H locs ls hR hS hL
  obtain ⟨hx, hb, hr, hml, hown, hts, hlk, hnm, hex, hst⟩ := id C
  exact va_mmin hx hb (hml.trans hL.1.symm) hown (hts _ lk) (hts _ (jx_mem 96 (by decide +kernel) rfl)) (hts _ (jx_mem 7 (by decide +kernel) rfl)) (hts _ (jx_mem 97 (by decide +kernel) rfl)) h1 (by omega) hc hs dc (kk p L e s m args below meth c C K H locs ls hR hS hL)
theorem jx_mmaxl {idx : Nat} {x z : Int64} (dc : decode y.2.1 pc = .ok (.invokestatic idx, 3)) (lk : Cond.methodLink y.1.cls idx Lib.MathLoose.max_long.x ∈ jx_tb) (h1 : 1 ≤ R.frames) (h2 : (st.map fun v => v.category).sum + 15 ≤ R.locals) (hc : kc ≤ R.cells) (hs : ks ≤ R.slots) (kk : jx_V y hh G R Q (pc + 3) l (.long (if z < x then x else z) :: st) M sz kc ks) : jx_V y hh G R Q pc l (.long z :: .long x :: st) M sz kc ks := by
  intro p L e s m args below meth c C K H locs ls hR hS hL
  obtain ⟨hx, hb, hr, hml, hown, hts, hlk, hnm, hex, hst⟩ := id C
  exact va_mmax_long hx hb (hml.trans hL.1.symm) hown (hts _ lk) (hts _ (jx_mem 533 (by decide +kernel) rfl)) (hts _ (jx_mem 7 (by decide +kernel) rfl)) (hts _ (jx_mem 534 (by decide +kernel) rfl)) h1 (by omega) hc hs dc (kk p L e s m args below meth c C K H locs ls hR hS hL)
theorem jx_mminl {idx : Nat} {x z : Int64} (dc : decode y.2.1 pc = .ok (.invokestatic idx, 3)) (lk : Cond.methodLink y.1.cls idx Lib.MathLoose.min_long.x ∈ jx_tb) (h1 : 1 ≤ R.frames) (h2 : (st.map fun v => v.category).sum + 15 ≤ R.locals) (hc : kc ≤ R.cells) (hs : ks ≤ R.slots) (kk : jx_V y hh G R Q (pc + 3) l (.long (if z < x then z else x) :: st) M sz kc ks) : jx_V y hh G R Q pc l (.long z :: .long x :: st) M sz kc ks := by
  intro p L e s m args below meth c C K H locs ls hR hS hL
  obtain ⟨hx, hb, hr, hml, hown, hts, hlk, hnm, hex, hst⟩ := id C
  exact va_mmin_long hx hb (hml.trans hL.1.symm) hown (hts _ lk) (hts _ (jx_mem 566 (by decide +kernel) rfl)) (hts _ (jx_mem 7 (by decide +kernel) rfl)) (hts _ (jx_mem 567 (by decide +kernel) rfl)) h1 (by omega) hc hs dc (kk p L e s m args below meth c C K H locs ls hR hS hL)
theorem jx_mabsl {idx : Nat} {x : Int64} (dc : decode y.2.1 pc = .ok (.invokestatic idx, 3)) (lk : Cond.methodLink y.1.cls idx Lib.MathLoose.abs_long.x ∈ jx_tb) (h1 : 1 ≤ R.frames) (h2 : (st.map fun v => v.category).sum + 15 ≤ R.locals) (hc : kc ≤ R.cells) (hs : ks ≤ R.slots) (kk : jx_V y hh G R Q (pc + 3) l (.long (sp_abs x) :: st) M sz kc ks) : jx_V y hh G R Q pc l (.long x :: st) M sz kc ks := by
  intro p L e s m args below meth c C K H locs ls hR hS hL
  obtain ⟨hx, hb, hr, hml, hown, hts, hlk, hnm, hex, hst⟩ := id C
  exact va_mabs_long hx hb (hml.trans hL.1.symm) hown (hts _ lk) (hts _ (jx_mem 445 (by decide +kernel) rfl)) (hts _ (jx_mem 7 (by decide +kernel) rfl)) (hts _ (jx_mem 446 (by decide +kernel) rfl)) h1 (by omega) hc hs dc (kk p L e s m args below meth c C K H locs ls hR hS hL)
end CMA
/-- an ArrayList: modCount, its array, its size -/
abbrev kf_A (mo : Int32) (ar n : Nat) : jx_E := .inl (6, [.int mo, .ref ar, .int (nI n)])
section CA
variable {G : jx_G} {d a ar sz n : Nat} {mo : Int32} {M : jx_H} {Z : Option Value → jx_H → Nat → Prop}
theorem c_AC_init (k : Z none M sz) : jx_Cr md_AC_init G d [.ref a] M sz 0 0 Z := by
  refine jx_ent rfl (Nat.le_of_ble_eq_true rfl) (l := [some (.ref a)]) (by simp [jx_le, jx_eas, Value.category]) (fun hlt => ?_)
  refine jx_aload_n (i := 0) d_AC_init_0 rfl rfl ?_
  refine jx_objInit d_AC_init_1 mo_AC_1 (Nat.succ_le_succ (Nat.zero_le _)) (jx_rml (Nat.le_of_ble_eq_true rfl)) ?_
  exact jx_vret d_AC_init_4 rfl (by omega) (by omega) k
theorem c_AL_init {x : Value} {n : Int32} (hd : 0 < d) (h : M a = some (.inl (6, [.int mo, x, .int n]))) (k : Z none (jx_up M a (.inl (6, [.int 0, x, .int n]))) sz) : jx_Cr md_AL_init G d [.ref a] M sz 0 0 Z := by
  refine jx_ent rfl (Nat.le_of_ble_eq_true rfl) (l := [some (.ref a)]) (by simp [jx_le, jx_eas, Value.category]) (fun hlt => ?_)
  refine jx_aload_n (i := 0) d_AL_init_0 rfl rfl ?_
  refine jx_callI0 d_AL_init_1 mi_AL_1 (jx_ok_rm (by omega) (Nat.le_of_ble_eq_true rfl)) (Nat.le_of_ble_eq_true rfl) (jx_rmc (by omega)) (jx_rms (by omega)) (c_AC_init (d := 0) ?_)
  dsimp only [Option.toList, List.cons_append, List.nil_append]
  refine jx_aload_n (i := 0) d_AL_init_4 rfl rfl ?_
  refine jx_iconst (v := 0) d_AL_init_5 (by decide) ?_
  refine jx_putf d_AL_init_6 pf_AL_7 h (Nat.le_of_ble_eq_true rfl) rfl rfl ?_
  exact jx_vret d_AL_init_9 rfl (by omega) (by omega) k
theorem c_A_init (hd : 1 < d) (h : M a = some (.inl (6, [.int 0, .null, .int 0]))) (k : Z none (jx_up M a (kf_A 0 (jx_ea G) 0)) sz) : jx_Cr md_A_init G d [.ref a] M sz 0 0 Z := by
  refine jx_ent rfl (Nat.le_of_ble_eq_true rfl) (l := [some (.ref a)]) (by simp [jx_le, jx_eas, Value.category]) (fun hlt => ?_)
  refine jx_aload_n (i := 0) d_A_init_0 rfl rfl ?_
  refine jx_callI0 d_A_init_1 mi_A_1 (jx_ok_rm (by omega) (Nat.le_of_ble_eq_true rfl)) (Nat.le_of_ble_eq_true rfl) (jx_rmc (by omega)) (jx_rms (by omega)) (c_AL_init (d := 1) (by omega) h ?_)
  dsimp only [Option.toList, List.cons_append, List.nil_append]
  refine jx_aload_n (i := 0) d_A_init_4 rfl rfl ?_
  refine jx_gets0 d_A_init_5 (jx_mem 42 (by decide +kernel) rfl) ?_
  refine jx_putf d_A_init_8 pf_A_9 (jx_up_s _ _ _) (Nat.le_of_ble_eq_true rfl) rfl rfl ?_
  exact jx_vret d_A_init_11 rfl (by omega) (by omega) (by simp only [jx_up_u]; exact k)
theorem c_A_size (h : M a = some (kf_A mo ar n)) (k : Z (some (.int (nI n))) M sz) : jx_Cr md_A_size G d [.ref a] M sz 0 0 Z := by
  refine jx_ent rfl (Nat.le_of_ble_eq_true rfl) (l := [some (.ref a)]) (by simp [jx_le, jx_eas, Value.category]) (fun hlt => ?_)
  refine jx_aload_n (i := 0) d_A_size_0 rfl rfl ?_
  refine jx_getf d_A_size_1 gf_A_48 h rfl ?_
  exact jx_iret d_A_size_4 rfl (by omega) (by omega) k
theorem c_A_isEmpty (hn : n < 2 ^ 31) (h : M a = some (kf_A mo ar n)) (k : Z (some (.int (kf_b (decide (n = 0))))) M sz) : jx_Cr md_A_isEmpty G d [.ref a] M sz 0 0 Z := by
  refine jx_ent rfl (Nat.le_of_ble_eq_true rfl) (l := [some (.ref a)]) (by simp [jx_le, jx_eas, Value.category]) (fun hlt => ?_)
  refine jx_aload_n (i := 0) d_A_isEmpty_0 rfl rfl ?_
  refine jx_getf d_A_isEmpty_1 gf_A_48 h rfl ?_
  refine jx_if_ne (tgt := 11) d_A_isEmpty_4 (by decide) (fun c4 => ?_) (fun c4 => ?_)
  · refine jx_iconst (v := 0) d_A_isEmpty_11 (by decide) ?_
    exact jx_zret d_A_isEmpty_12 rfl (by first | exact Or.inl rfl | exact Or.inr rfl) (by omega) (by omega) (by rw [show decide (n = 0) = false from decide_eq_false (fun q => c4 (by rw [q]; rfl))] at k; exact k)
  · refine jx_iconst (v := 1) d_A_isEmpty_7 (by decide) ?_
    refine jx_goto (tgt := 12) d_A_isEmpty_8 (by decide) ?_
    exact jx_zret d_A_isEmpty_12 rfl (by first | exact Or.inl rfl | exact Or.inr rfl) (by omega) (by omega) (by
      rw [show decide (n = 0) = true from decide_eq_true ((nI_eq (b := 0) (by omega) (by omega)).mp c4)] at k
      exact k)
theorem c_PC_checkIndex {i : Nat} (hi : i < n) (hn : n < 2 ^ 31) (k : Z (some (.int (nI i))) M sz) : jx_Cr md_PC_checkIndex G d [.int (nI i), .int (nI n), .null] M sz 0 0 Z := by
  refine jx_ent rfl (Nat.le_of_ble_eq_true rfl) (l := [some (.int (nI i)), some (.int (nI n)), some .null]) (by simp [jx_le, jx_eas, Value.category]) (fun hlt => ?_)
  refine jx_iload_n (i := 0) d_PC_checkIndex_0 rfl rfl ?_
  refine jx_if_lt (tgt := 9) d_PC_checkIndex_1 (by decide) (fun c1 => ?_) (fun c1 => ?_)
  · exact absurd c1 (nI_pos (by omega))
  · refine jx_iload_n (i := 0) d_PC_checkIndex_4 rfl rfl ?_
    refine jx_iload_n (i := 1) d_PC_checkIndex_5 rfl rfl ?_
    refine jx_icmp_lt (tgt := 16) d_PC_checkIndex_6 (by decide) (fun c6 => ?_) (fun c6 => ?_)
    · refine jx_iload_n (i := 0) d_PC_checkIndex_16 rfl rfl ?_
      exact jx_iret d_PC_checkIndex_17 rfl (by omega) (by omega) k
    · exact absurd (nI_lt hi hn) c6
theorem c_OB_checkIndex {i : Nat} (hd : 0 < d) (hi : i < n) (hn : n < 2 ^ 31) (k : Z (some (.int (nI i))) M sz) : jx_Cr md_OB_checkIndex G d [.int (nI i), .int (nI n)] M sz 0 0 Z := by
  refine jx_ent rfl (Nat.le_of_ble_eq_true rfl) (l := [some (.int (nI i)), some (.int (nI n))]) (by simp [jx_le, jx_eas, Value.category]) (fun hlt => ?_)
  refine jx_iload_n (i := 0) d_OB_checkIndex_0 rfl rfl ?_
  refine jx_iload_n (i := 1) d_OB_checkIndex_1 rfl rfl ?_
  refine jx_null d_OB_checkIndex_2 ?_
  refine jx_callS3 d_OB_checkIndex_3 ms_OB_105 (jx_ok_rm (by omega) (Nat.le_of_ble_eq_true rfl)) (Nat.le_of_ble_eq_true rfl) (jx_rmc (by omega)) (jx_rms (by omega)) (c_PC_checkIndex (d := 0) hi hn ?_)
  dsimp only [Option.toList, List.cons_append, List.nil_append]
  exact jx_iret d_OB_checkIndex_6 rfl (by omega) (by omega) k
theorem c_A_elementData {i N v : Nat} {f : Nat → Option Nat} (hi : i < N) (hN : N < 2 ^ 31) (h : M a = some (kf_A mo ar n)) (hf : M ar = some (kf_oa N f)) (hv : f i = some v) (k : Z (some (.ref v)) M sz) : jx_Cr md_A_elementData G d [.ref a, .int (nI i)] M sz 0 0 Z := by
  refine jx_ent rfl (Nat.le_of_ble_eq_true rfl) (l := [some (.ref a), some (.int (nI i))]) (by simp [jx_le, jx_eas, Value.category]) (fun hlt => ?_)
  refine jx_aload_n (i := 0) d_A_elementData_0 rfl rfl ?_
  refine jx_getf d_A_elementData_1 gf_A_9 h rfl ?_
  refine jx_iload_n (i := 1) d_A_elementData_4 rfl rfl ?_
  refine jx_aald (t0 := 2) d_A_elementData_5 hf rfl (vp_in_nI hi hN) ?_
  rw [nI_clamp (by omega), hv]
  exact jx_aret (a := v) d_A_elementData_6 rfl (Or.inl ⟨_, rfl⟩) (by omega) (by omega) k
theorem c_A_get {i N v : Nat} {f : Nat → Option Nat} (hd : 1 < d) (hi : i < n) (hn : n ≤ N) (hN : N < 2 ^ 31) (h : M a = some (kf_A mo ar n)) (hf : M ar = some (kf_oa N f)) (hv : f i = some v) (k : Z (some (.ref v)) M sz) : jx_Cr md_A_get G d [.ref a, .int (nI i)] M sz 0 0 Z := by
  refine jx_ent rfl (Nat.le_of_ble_eq_true rfl) (l := [some (.ref a), some (.int (nI i))]) (by simp [jx_le, jx_eas, Value.category]) (fun hlt => ?_)
  refine jx_iload_n (i := 1) d_A_get_0 rfl rfl ?_
  refine jx_aload_n (i := 0) d_A_get_1 rfl rfl ?_
  refine jx_getf d_A_get_2 gf_A_48 h rfl ?_
  refine jx_callS2 d_A_get_5 ms_A_118 (jx_ok_rm (by omega) (Nat.le_of_ble_eq_true rfl)) (Nat.le_of_ble_eq_true rfl) (jx_rmc (by omega)) (jx_rms (by omega)) (c_OB_checkIndex (d := 1) (by omega) hi (by omega) ?_)
  dsimp only [Option.toList, List.cons_append, List.nil_append]
  refine jx_pop d_A_get_8 rfl ?_
  refine jx_aload_n (i := 0) d_A_get_9 rfl rfl ?_
  refine jx_iload_n (i := 1) d_A_get_10 rfl rfl ?_
  refine jx_callV1 d_A_get_11 mv_A_123 h rfl (jx_ok_rm (by omega) (Nat.le_of_ble_eq_true rfl)) (Nat.le_of_ble_eq_true rfl) (jx_rmc (by omega)) (jx_rms (by omega)) (c_A_elementData (d := 0) (by omega) hN h hf hv ?_)
  dsimp only [Option.toList, List.cons_append, List.nil_append]
  exact jx_aret d_A_get_14 rfl (Or.inl ⟨_, rfl⟩) (by omega) (by omega) k
theorem c_AS_newLength {o g p : Nat} (hd : 0 < d) (h0 : 0 < o + max g p) (ho : o < 1000) (hg : g < 1000) (hp : p < 1000) (k : Z (some (.int (nI (o + max g p)))) M sz) : jx_Cr md_AS_newLength G d [.int (nI o), .int (nI g), .int (nI p)] M sz 0 0 Z := by
  refine jx_ent rfl (Nat.le_of_ble_eq_true rfl) (l := [some (.int (nI o)), some (.int (nI g)), some (.int (nI p)), none]) (by simp [jx_le, jx_eas, Value.category]) (fun hlt => ?_)
  refine jx_iload_n (i := 0) d_AS_newLength_0 rfl rfl ?_
  refine jx_iload_n (i := 1) d_AS_newLength_1 rfl rfl ?_
  refine jx_iload_n (i := 2) d_AS_newLength_2 rfl rfl ?_
  refine jx_mmax d_AS_newLength_3 ms_AS_194.1.1 (Nat.succ_le_succ (Nat.zero_le _)) (jx_rmm (Nat.le_of_ble_eq_true rfl)) (jx_rmc (by omega)) (jx_rms (by omega)) ?_
  have e : (if nI g < nI p then nI p else nI g) = nI (max g p) := by
    by_cases q : g < p
    · rw [if_pos (nI_lt q (by omega)), Nat.max_eq_right (by omega)]
    · rw [if_neg (nI_nlt (by omega) (by omega)), Nat.max_eq_left (by omega)]
  rw [e]
  refine jx_iadd d_AS_newLength_6 ?_
  rw [nI_add]
  refine jx_istore_n (i := 3) d_AS_newLength_7 rfl (Nat.le_of_ble_eq_true rfl) (jx_e4_3 (by trivial)) ?_
  refine jx_iconst (v := 0) d_AS_newLength_8 (by decide) ?_
  refine jx_iload_n (i := 3) d_AS_newLength_9 rfl rfl ?_
  refine jx_icmp_ge (tgt := 21) d_AS_newLength_10 (by decide) (fun c10 => ?_) (fun c10 => ?_)
  · exact absurd c10 (fun q => by have := (nI_leI (b := 0) (by omega) (by omega)).mp q; omega)
  · refine jx_iload_n (i := 3) d_AS_newLength_13 rfl rfl ?_
    refine jx_ldc d_AS_newLength_14 rfl nv_AS_200 ?_
    refine jx_icmp_gt (tgt := 21) d_AS_newLength_16 (by decide) (fun c16 => ?_) (fun c16 => ?_)
    · exact absurd c16 (fun q => by have := (nI_ltI (a := 2147483639) (by omega) (by omega)).mp q; omega)
    · refine jx_iload_n (i := 3) d_AS_newLength_19 rfl rfl ?_
      exact jx_iret d_AS_newLength_20 rfl (by omega) (by omega) k
end CA
