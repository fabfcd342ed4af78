/-! PART 17: KeyRows, what is read -/
/-- a KeyRows: name, times, values, states, count, work, the folds' list -/
abbrev kf_R (nm : Int64) (ta va sa n : Nat) (wk : Int32) (fl : Nat) : jx_E := .inl (1, [.long nm, .ref ta, .ref va, .ref sa, .int (nI n), .int wk, .ref fl])
/-- the step with row i -/
def sp_sa (kn : Nat) (p : Int64) (tm vl : Nat → Int64) (i : Nat) (s : Int64) : Int64 := sp_st kn p s (vl i) (if i = 0 then 0 else tm i - tm (i - 1)) (decide (i = 0))
/-- the state of the first rows -/
def sp_fo (kn : Nat) (st p : Int64) (tm vl : Nat → Int64) : Nat → Int64
  | 0 => st
  | i + 1 => sp_sa kn p tm vl i (sp_fo kn st p tm vl i)
/-- the first n rows, the last first -/
def sp_bw (kn : Nat) (p : Int64) (tm vl : Nat → Int64) : Nat → Int64 → Int64
  | 0, s => s
  | i + 1, s => sp_bw kn p tm vl i (sp_sa kn p tm vl i s)
/-- how many lead -/
def sp_ld (P : Nat → Bool) (n : Nat) : Nat := match sp_ix (fun j => !P j) n with
  | some i => i
  | none => n
section CL
variable {G : jx_G} {d a ar sz n k i : Nat} {el : Nat → Nat} {M : jx_H} {Z : Option Value → jx_H → Nat → Prop}
theorem c_L_size (hL : kf_L G M k a ar n el) (kk : Z (some (.int (nI n))) M sz) : jx_Cr md_A_size G d [.ref a] M sz 0 0 Z := by
  obtain ⟨⟨mo, h⟩, -⟩ := hL
  exact c_A_size h kk
theorem c_L_get (hd : 1 < d) (hL : kf_L G M k a ar n el) (hi : i < n) (kk : Z (some (.ref (el i))) M sz) : jx_Cr md_A_get G d [.ref a, .int (nI i)] M sz 0 0 Z := by
  obtain ⟨⟨mo, h⟩, hL⟩ := hL
  rcases hL with ⟨rfl, -⟩ | ⟨N, f, hf, hN0, hnN, hN100, hfe, hfn⟩
  · omega
  · exact c_A_get hd hi hnN (by omega) h hf (hfe i hi) kk
theorem kf_L.at (hL : kf_L G M k a ar n el) : ∃ mo, M a = some (kf_A mo ar n) := hL.1
end CL
section CR
variable {G : jx_G} {d a g fl ta va sa sz n i kn fc fa : Nat} {nm st p s t v : Int64} {wk tk : Int32} {tm vl : Nat → Int64} {M : jx_H} {Z : Option Value → jx_H → Nat → Prop}
theorem c_R_stepAt (hd : 0 < d) (h : M a = some (kf_R nm ta va sa n wk fl)) (ht : M ta = some (kf_la 60 tm)) (hv : M va = some (kf_la 60 vl)) (hg : M g = some (kf_F (nI kn) st p fc fa)) (hk : kn ≤ 8) (hi : i < 60) (k : Z (some (.long (sp_sa kn p tm vl i s))) M sz) : jx_Cr md_R_stepAt G d [.ref a, .int (nI i), .ref g, .long s] M sz 0 0 Z := by
  refine jx_ent rfl (Nat.le_of_ble_eq_true rfl) (l := [some (.ref a), some (.int (nI i)), some (.ref g), some (.long s), none, none, none]) (by simp [jx_le, jx_eas, Value.category]) (fun hlt => ?_)
  have rest : ∀ gp : Int64, gp = (if i = 0 then 0 else tm i - tm (i - 1)) → jx_V md_R_stepAt [] G (jx_rm d 0 0) (jx_Q1 G 0 0 Z) 25 [some (.ref a), some (.int (nI i)), some (.ref g), some (.long s), none, some (.long gp), none] [] M sz 0 0 := by
    intro gp hgp
    refine jx_aload_n (i := 2) d_R_stepAt_25 rfl rfl ?_
    refine jx_lload_n (i := 3) d_R_stepAt_26 rfl rfl ?_
    refine jx_aload_n (i := 0) d_R_stepAt_27 rfl rfl ?_
    refine jx_getf d_R_stepAt_28 gf_R_15 h rfl ?_
    refine jx_iload_n (i := 1) d_R_stepAt_31 rfl rfl ?_
    refine jx_lald (t0 := 1) d_R_stepAt_32 hv rfl (vp_in_nI hi (by omega)) ?_
    refine jx_lload d_R_stepAt_33 rfl ?_
    refine jx_iload_n (i := 1) d_R_stepAt_35 rfl rfl ?_
    refine jx_if_ne (tgt := 43) d_R_stepAt_36 (by decide) (fun c36 => ?_) (fun c36 => ?_)
    · rw [nI_clamp (by omega)]
      refine jx_iconst (v := 0) d_R_stepAt_43 (by decide) ?_
      have e0 : ¬ i = 0 := fun q => c36 (by rw [q]; rfl)
      refine jx_callV4 d_R_stepAt_44 mv_R_87 hg rfl (jx_ok_rm (by omega) (Nat.le_of_ble_eq_true rfl)) (Nat.le_of_ble_eq_true rfl) (jx_rmc (by omega)) (jx_rms (by omega)) (c_F_step (b := false) (d := 0) hk hg ?_)
      dsimp only [Option.toList, List.cons_append, List.nil_append]
      exact jx_lret d_R_stepAt_47 rfl (by omega) (by omega) (by rw [sp_sa, ← hgp, show decide (i = 0) = false from decide_eq_false e0] at k; exact k)
    · rw [nI_clamp (by omega)]
      refine jx_iconst (v := 1) d_R_stepAt_39 (by decide) ?_
      refine jx_goto (tgt := 44) d_R_stepAt_40 (by decide) ?_
      have e0 : i = 0 := (nI_eq (b := 0) (by omega) (by omega)).mp c36
      refine jx_callV4 d_R_stepAt_44 mv_R_87 hg rfl (jx_ok_rm (by omega) (Nat.le_of_ble_eq_true rfl)) (Nat.le_of_ble_eq_true rfl) (jx_rmc (by omega)) (jx_rms (by omega)) (c_F_step (b := true) (d := 0) hk hg ?_)
      dsimp only [Option.toList, List.cons_append, List.nil_append]
      exact jx_lret d_R_stepAt_47 rfl (by omega) (by omega) (by rw [sp_sa, ← hgp, show decide (i = 0) = true from decide_eq_true e0] at k; exact k)
  refine jx_iload_n (i := 1) d_R_stepAt_0 rfl rfl ?_
  refine jx_if_ne (tgt := 8) d_R_stepAt_1 (by decide) (fun c1 => ?_) (fun c1 => ?_)
  · have e0 : ¬ i = 0 := fun q => c1 (by rw [q]; rfl)
    refine jx_aload_n (i := 0) d_R_stepAt_8 rfl rfl ?_
    refine jx_getf d_R_stepAt_9 gf_R_9 h rfl ?_
    refine jx_iload_n (i := 1) d_R_stepAt_12 rfl rfl ?_
    refine jx_lald (t0 := 1) d_R_stepAt_13 ht rfl (vp_in_nI hi (by omega)) ?_
    refine jx_aload_n (i := 0) d_R_stepAt_14 rfl rfl ?_
    refine jx_getf d_R_stepAt_15 gf_R_9 h rfl ?_
    refine jx_iload_n (i := 1) d_R_stepAt_18 rfl rfl ?_
    refine jx_iconst (v := 1) d_R_stepAt_19 (by decide) ?_
    rw [nI_clamp (by omega)]
    refine jx_isub d_R_stepAt_20 ?_
    rw [show nI i - 1 = nI (i - 1) from pk_sub (a := i) (b := 1) (by omega)]
    refine jx_lald (t0 := 1) d_R_stepAt_21 ht rfl (vp_in_nI (by omega) (by omega)) ?_
    rw [nI_clamp (by omega)]
    refine jx_lsub d_R_stepAt_22 ?_
    refine jx_lstore d_R_stepAt_23 (Nat.le_of_ble_eq_true rfl) (jx_f7_5 (by trivial)) ?_
    exact rest _ (by rw [if_neg e0])
  · have e0 : i = 0 := (nI_eq (b := 0) (by omega) (by omega)).mp c1
    refine jx_lconst (v := 0) d_R_stepAt_4 (by decide) ?_
    refine jx_goto (tgt := 23) d_R_stepAt_5 (by decide) ?_
    refine jx_lstore d_R_stepAt_23 (Nat.le_of_ble_eq_true rfl) (jx_f7_5 (by trivial)) ?_
    exact rest _ (by rw [if_pos e0])
theorem c_R_stateOfFirst {r : Nat} (hd : 1 < d) (h : M a = some (kf_R nm ta va sa n wk fl)) (ht : M ta = some (kf_la 60 tm)) (hv : M va = some (kf_la 60 vl)) (hg : M g = some (kf_F (nI kn) st p fc fa)) (hk : kn ≤ 8) (hn : n ≤ 60) (hr : r ≤ n) (k : Z (some (.long (sp_fo kn st p tm vl r))) M sz) : jx_Cr md_R_stateOfFirst G d [.ref a, .int (nI r), .ref g] M sz 0 0 Z := by
  refine jx_ent rfl (Nat.le_of_ble_eq_true rfl) (l := [some (.ref a), some (.int (nI r)), some (.ref g), none, none, none]) (by simp [jx_le, jx_eas, Value.category]) (fun hlt => ?_)
  have loop : ∀ (j i : Nat), i + j = r → jx_V md_R_stateOfFirst [] G (jx_rm d 0 0) (jx_Q1 G 0 0 Z) 8 [some (.ref a), some (.int (nI r)), some (.ref g), some (.long (sp_fo kn st p tm vl i)), none, some (.int (nI i))] [] M sz 0 0 := by
    intro j
    induction j with
    | zero =>
      intro i hi
      refine jx_iload d_R_stateOfFirst_8 rfl ?_
      refine jx_iload_n (i := 1) d_R_stateOfFirst_10 rfl rfl ?_
      refine jx_icmp_ge (tgt := 38) d_R_stateOfFirst_11 (by decide) (fun c11 => ?_) (fun c11 => ?_)
      · refine jx_lload_n (i := 3) d_R_stateOfFirst_38 rfl rfl ?_
        exact jx_lret d_R_stateOfFirst_39 rfl (by omega) (by omega) (by rw [show r = i by omega] at k; exact k)
      · exact absurd ((nI_leI (by omega) (by omega)).mpr (by omega)) c11
    | succ j ih =>
      intro i hi
      refine jx_iload d_R_stateOfFirst_8 rfl ?_
      refine jx_iload_n (i := 1) d_R_stateOfFirst_10 rfl rfl ?_
      refine jx_icmp_ge (tgt := 38) d_R_stateOfFirst_11 (by decide) (fun c11 => ?_) (fun c11 => ?_)
      · exact absurd ((nI_leI (by omega) (by omega)).mp c11) (by omega)
      · refine jx_iload d_R_stateOfFirst_14 rfl ?_
        refine jx_aload_n (i := 0) d_R_stateOfFirst_16 rfl rfl ?_
        refine jx_getf d_R_stateOfFirst_17 gf_R_18 h rfl ?_
        refine jx_icmp_ge (tgt := 38) d_R_stateOfFirst_20 (by decide) (fun c20 => ?_) (fun c20 => ?_)
        · exact absurd ((nI_leI (by omega) (by omega)).mp c20) (by omega)
        · refine jx_aload_n (i := 0) d_R_stateOfFirst_23 rfl rfl ?_
          refine jx_iload d_R_stateOfFirst_24 rfl ?_
          refine jx_aload_n (i := 2) d_R_stateOfFirst_26 rfl rfl ?_
          refine jx_lload_n (i := 3) d_R_stateOfFirst_27 rfl rfl ?_
          refine jx_callV3 d_R_stateOfFirst_28 mv_R_66 h rfl (jx_ok_rm (by omega) (Nat.le_of_ble_eq_true rfl)) (Nat.le_of_ble_eq_true rfl) (jx_rmc (by omega)) (jx_rms (by omega)) (c_R_stepAt (d := 1) (by omega) h ht hv hg hk (by omega) ?_)
          dsimp only [Option.toList, List.cons_append, List.nil_append]
          refine jx_lstore_n (i := 3) d_R_stateOfFirst_31 rfl (Nat.le_of_ble_eq_true rfl) (jx_f6_3 (by trivial)) ?_
          refine jx_iinc d_R_stateOfFirst_32 rfl (Nat.le_of_ble_eq_true rfl) (jx_e6_5 (by trivial)) ?_
          refine jx_goto (tgt := 8) d_R_stateOfFirst_35 (by decide) ?_
          rw [nI_1]
          exact ih (i + 1) (by omega)
  refine jx_aload_n (i := 2) d_R_stateOfFirst_0 rfl rfl ?_
  refine jx_getf d_R_stateOfFirst_1 gf_R_84 hg rfl ?_
  refine jx_lstore_n (i := 3) d_R_stateOfFirst_4 rfl (Nat.le_of_ble_eq_true rfl) (jx_f6_3 (by trivial)) ?_
  refine jx_iconst (v := 0) d_R_stateOfFirst_5 (by decide) ?_
  refine jx_istore d_R_stateOfFirst_6 (Nat.le_of_ble_eq_true rfl) (jx_e6_5 (by trivial)) ?_
  exact loop r 0 (by omega)
theorem sp_ld_le (P : Nat → Bool) (n : Nat) : sp_ld P n ≤ n := by
  unfold sp_ld
  split
  · rename_i i hi
    exact Nat.le_of_lt (sp_ix_lt hi).1
  · omega
theorem c_R_countBelow (h : M a = some (kf_R nm ta va sa n wk fl)) (ht : M ta = some (kf_la 60 tm)) (hn : n ≤ 60) (k : Z (some (.int (nI (sp_ld (fun j => decide (tm j < t)) n)))) M sz) : jx_Cr md_R_countBelow G d [.ref a, .long t] M sz 0 0 Z := by
  refine jx_ent rfl (Nat.le_of_ble_eq_true rfl) (l := [some (.ref a), some (.long t), none, none]) (by simp [jx_le, jx_eas, Value.category]) (fun hlt => ?_)
  have loop : ∀ (j i : Nat), i + j = n → sp_ix (fun j => !decide (tm j < t)) i = none → jx_V md_R_countBelow [] G (jx_rm d 0 0) (jx_Q1 G 0 0 Z) 2 [some (.ref a), some (.long t), none, some (.int (nI i))] [] M sz 0 0 := by
    intro j
    induction j with
    | zero =>
      intro i hi hP
      refine jx_iload_n (i := 3) d_R_countBelow_2 rfl rfl ?_
      refine jx_aload_n (i := 0) d_R_countBelow_3 rfl rfl ?_
      refine jx_getf d_R_countBelow_4 gf_R_18 h rfl ?_
      refine jx_icmp_ge (tgt := 27) d_R_countBelow_7 (by decide) (fun c7 => ?_) (fun c7 => ?_)
      · refine jx_iload_n (i := 3) d_R_countBelow_27 rfl rfl ?_
        exact jx_iret d_R_countBelow_28 rfl (by omega) (by omega) (by rw [sp_ld, show n = i by omega, hP] at k; exact k)
      · exact absurd ((nI_leI (by omega) (by omega)).mpr (by omega)) c7
    | succ j ih =>
      intro i hi hP
      refine jx_iload_n (i := 3) d_R_countBelow_2 rfl rfl ?_
      refine jx_aload_n (i := 0) d_R_countBelow_3 rfl rfl ?_
      refine jx_getf d_R_countBelow_4 gf_R_18 h rfl ?_
      refine jx_icmp_ge (tgt := 27) d_R_countBelow_7 (by decide) (fun c7 => ?_) (fun c7 => ?_)
      · exact absurd ((nI_leI (by omega) (by omega)).mp c7) (by omega)
      · refine jx_aload_n (i := 0) d_R_countBelow_10 rfl rfl ?_
        refine jx_getf d_R_countBelow_11 gf_R_9 h rfl ?_
        refine jx_iload_n (i := 3) d_R_countBelow_14 rfl rfl ?_
        refine jx_lald (t0 := 1) d_R_countBelow_15 ht rfl (vp_in_nI (by omega) (by omega)) ?_
        refine jx_lload_n (i := 1) d_R_countBelow_16 rfl rfl ?_
        refine jx_l_ge (tgt := 27) d_R_countBelow_17 d_R_countBelow_18 (by decide) (fun c17 => ?_) (fun c17 => ?_)
        · refine jx_iload_n (i := 3) d_R_countBelow_27 rfl rfl ?_
          exact jx_iret d_R_countBelow_28 rfl (by omega) (by omega) (by
            rw [nI_clamp (by omega)] at c17
            have : ¬ tm i < t := fun q => absurd c17 (l_nle q)
            rw [sp_ld, sp_ix_at (i := i) hP (by simp [this]) (by omega)] at k
            exact k)
        · refine jx_iinc d_R_countBelow_21 rfl (Nat.le_of_ble_eq_true rfl) (jx_e4_3 (by trivial)) ?_
          refine jx_goto (tgt := 2) d_R_countBelow_24 (by decide) ?_
          rw [nI_1]
          refine ih (i + 1) (by omega) ?_
          rw [nI_clamp (by omega)] at c17
          have : tm i < t := by
            rw [Int64.le_iff_toInt_le] at c17
            rw [Int64.lt_iff_toInt_lt]
            omega
          simp [sp_ix, hP, this]
  refine jx_iconst (v := 0) d_R_countBelow_0 (by decide) ?_
  refine jx_istore_n (i := 3) d_R_countBelow_1 rfl (Nat.le_of_ble_eq_true rfl) (jx_e4_3 (by trivial)) ?_
  exact loop n 0 (by omega) rfl
theorem c_R_hasNear (h : M a = some (kf_R nm ta va sa n wk fl)) (ht : M ta = some (kf_la 60 tm)) (hv : M va = some (kf_la 60 vl)) (hn : n ≤ 60) (k : Z (some (.int (kf_b (sp_ex (fun j => vl j == v && decide (sp_abs (tm j - t) < tk.toInt64)) n)))) M sz) : jx_Cr md_R_hasNear G d [.ref a, .long t, .long v, .int tk] M sz 0 0 Z := by
  refine jx_ent rfl (Nat.le_of_ble_eq_true rfl) (l := [some (.ref a), some (.long t), none, some (.long v), none, some (.int tk), none]) (by simp [jx_le, jx_eas, Value.category]) (fun hlt => ?_)
  have loop : ∀ (j i : Nat), i + j = n → sp_ex (fun j => vl j == v && decide (sp_abs (tm j - t) < tk.toInt64)) i = false → jx_V md_R_hasNear [] G (jx_rm d 0 0) (jx_Q1 G 0 0 Z) 3 [some (.ref a), some (.long t), none, some (.long v), none, some (.int tk), some (.int (nI i))] [] M sz 0 0 := by
    intro j
    induction j with
    | zero =>
      intro i hi hP
      refine jx_iload d_R_hasNear_3 rfl ?_
      refine jx_aload_n (i := 0) d_R_hasNear_5 rfl rfl ?_
      refine jx_getf d_R_hasNear_6 gf_R_18 h rfl ?_
      refine jx_icmp_ge (tgt := 51) d_R_hasNear_9 (by decide) (fun c9 => ?_) (fun c9 => ?_)
      · refine jx_iconst (v := 0) d_R_hasNear_51 (by decide) ?_
        exact jx_zret d_R_hasNear_52 rfl (by first | exact Or.inl rfl | exact Or.inr rfl) (by omega) (by omega) (by rw [show n = i by omega, hP] at k; exact k)
      · exact absurd ((nI_leI (by omega) (by omega)).mpr (by omega)) c9
    | succ j ih =>
      intro i hi hP
      refine jx_iload d_R_hasNear_3 rfl ?_
      refine jx_aload_n (i := 0) d_R_hasNear_5 rfl rfl ?_
      refine jx_getf d_R_hasNear_6 gf_R_18 h rfl ?_
      refine jx_icmp_ge (tgt := 51) d_R_hasNear_9 (by decide) (fun c9 => ?_) (fun c9 => ?_)
      · exact absurd ((nI_leI (by omega) (by omega)).mp c9) (by omega)
      · refine jx_aload_n (i := 0) d_R_hasNear_12 rfl rfl ?_
        refine jx_getf d_R_hasNear_13 gf_R_15 h rfl ?_
        refine jx_iload d_R_hasNear_16 rfl ?_
        refine jx_lald (t0 := 1) d_R_hasNear_18 hv rfl (vp_in_nI (by omega) (by omega)) ?_
        refine jx_lload_n (i := 3) d_R_hasNear_19 rfl rfl ?_
        refine jx_l_ne (tgt := 45) d_R_hasNear_20 d_R_hasNear_21 (by decide) (fun c20 => ?_) (fun c20 => ?_)
        · refine jx_iinc d_R_hasNear_45 rfl (Nat.le_of_ble_eq_true rfl) (jx_e7_6 (by trivial)) ?_
          refine jx_goto (tgt := 3) d_R_hasNear_48 (by decide) ?_
          rw [nI_1]
          refine ih (i + 1) (by omega) ?_
          rw [nI_clamp (by omega)] at c20
          simp [sp_ex, hP, c20]
        · refine jx_aload_n (i := 0) d_R_hasNear_24 rfl rfl ?_
          refine jx_getf d_R_hasNear_25 gf_R_9 h rfl ?_
          refine jx_iload d_R_hasNear_28 rfl ?_
          refine jx_lald (t0 := 1) d_R_hasNear_30 ht rfl (vp_in_nI (by omega) (by omega)) ?_
          rw [nI_clamp (by omega)]
          rw [nI_clamp (by omega)] at c20
          refine jx_lload_n (i := 1) d_R_hasNear_31 rfl rfl ?_
          refine jx_lsub d_R_hasNear_32 ?_
          refine jx_mabsl d_R_hasNear_33 ms_R_36.1.1 (Nat.succ_le_succ (Nat.zero_le _)) (jx_rmm (Nat.le_of_ble_eq_true rfl)) (jx_rmc (by omega)) (jx_rms (by omega)) ?_
          refine jx_iload d_R_hasNear_36 rfl ?_
          refine jx_i2l d_R_hasNear_38 ?_
          refine jx_l_ge (tgt := 45) d_R_hasNear_39 d_R_hasNear_40 (by decide) (fun c39 => ?_) (fun c39 => ?_)
          · refine jx_iinc d_R_hasNear_45 rfl (Nat.le_of_ble_eq_true rfl) (jx_e7_6 (by trivial)) ?_
            refine jx_goto (tgt := 3) d_R_hasNear_48 (by decide) ?_
            rw [nI_1]
            refine ih (i + 1) (by omega) ?_
            have : ¬ sp_abs (tm i - t) < tk.toInt64 := fun q => absurd c39 (l_nle q)
            simp [sp_ex, hP, this]
          · refine jx_iconst (v := 1) d_R_hasNear_43 (by decide) ?_
            exact jx_zret d_R_hasNear_44 rfl (by first | exact Or.inl rfl | exact Or.inr rfl) (by omega) (by omega) (by
              have : sp_abs (tm i - t) < tk.toInt64 := by
                rw [Int64.le_iff_toInt_le] at c39
                rw [Int64.lt_iff_toInt_lt]
                omega
              rw [sp_ex_at (i := i) (by simp [c20, this]) (by omega)] at k
              exact k)
  refine jx_iconst (v := 0) d_R_hasNear_0 (by decide) ?_
  refine jx_istore d_R_hasNear_1 (Nat.le_of_ble_eq_true rfl) (jx_e7_6 (by trivial)) ?_
  exact loop n 0 (by omega) rfl
end CR
