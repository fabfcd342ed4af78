/-! PART 24: KeyedFolds: timers, rows that leave, states at the start -/
theorem lN_pred (b : Nat) : lN (b + 1) - 1 = lN b := by
  have := lN_sub (a := b + 1) (b := 1) (by omega)
  rw [Nat.add_sub_cancel] at this
  exact this
/-- how many rows of a key are below -/
def sp_lg (thr : Int64) (q : sp_key) : Nat := sp_ld (fun j => decide (q.2.2.1 j < thr)) q.1
/-- a key when its rows below have left -/
def sp_lx (fd : sp_fd) (nF : Nat) (thr : Int64) (q : sp_key) : sp_key :=
  (q.1 - sp_lg thr q, sp_ws (sp_c2 fd (q.1 - sp_lg thr q)) (sp_ws (sp_c1 fd (sp_lg thr q)) q.2.1 nF) nF, sp_rm q.2.2.1 q.1 (sp_lg thr q), sp_rm q.2.2.2.1 q.1 (sp_lg thr q),
    sp_ut nF (sp_n2 fd (sp_rm q.2.2.1 q.1 (sp_lg thr q)) (sp_rm q.2.2.2.1 q.1 (sp_lg thr q)) (sp_ut nF (sp_n1 fd q.2.2.2.1 q.2.2.2.2 (sp_lg thr q)) q.2.2.2.2) (q.1 - sp_lg thr q)) (sp_ut nF (sp_n1 fd q.2.2.2.1 q.2.2.2.2 (sp_lg thr q)) q.2.2.2.2))
def sp_lv (fd : sp_fd) (nF : Nat) (thr : Int64) (q : sp_key) : sp_key := if sp_lg thr q = 0 then q else sp_lx fd nF thr q
def sp_um (i : Nat) (nw od : Nat → sp_key) : Nat → sp_key := fun j => if j < i then nw j else od j
theorem sp_um_0 (nw od : Nat → sp_key) : sp_um 0 nw od = od := by
  funext j
  simp [sp_um]
theorem sp_um_i (i : Nat) (nw od : Nat → sp_key) : sp_um i nw od i = od i := by simp [sp_um]
theorem sp_um_s (i : Nat) (nw od : Nat → sp_key) : va_up (sp_um i nw od) i (nw i) = sp_um (i + 1) nw od := by
  funext j
  unfold va_up sp_um
  by_cases h : j = i
  · subst h
    rw [if_pos rfl, if_pos (by omega)]
  · rw [if_neg h]
    by_cases h2 : j < i
    · rw [if_pos h2, if_pos (by omega)]
    · rw [if_neg h2, if_neg (by omega)]
theorem sp_um_e {i : Nat} {nw od : Nat → sp_key} (h : nw i = od i) : sp_um (i + 1) nw od = sp_um i nw od := by
  funext j
  unfold sp_um
  by_cases h1 : j = i
  · subst h1
    rw [if_pos (by omega), if_neg (by omega), h]
  · by_cases h2 : j < i
    · rw [if_pos h2, if_pos (by omega)]
    · rw [if_neg h2, if_neg (by omega)]
section CK4
variable {G : jx_G} {d a lo far kar nF nK sz nO : Nat} {la wi en pe lr fr tk lc db fc le : Int32} {gt lt m : Int64} {fo ko : Nat → Nat} {nm : Nat → Int64} {kd : Nat → sp_key} {fd : sp_fd} {fw : Nat → Nat → Int64} {oc : Nat → Int64} {M : jx_H} {Z : Option Value → jx_H → Nat → Prop}
theorem c_K_doTimers_idle {fl kl so ao oo : Nat} (hd : 0 < d) (hK : M a = some (kf_K la wi en pe fl kl so ao oo lr fr gt lt tk lc db fc le)) (h : pe = 0 ∨ ¬ 0 < gt - la.toInt64) (k : Z none M sz) : jx_Cr md_K_doTimers G d [.ref a] M sz 0 0 Z := by
  refine jx_ent rfl (Nat.le_of_ble_eq_true rfl) (l := [some (.ref a), none, none, none, none, none, none]) (by simp [jx_le, jx_eas, Value.category]) (fun hlt => ?_)
  refine jx_aload_n (i := 0) d_K_doTimers_0 rfl rfl ?_
  refine jx_getf d_K_doTimers_1 gf_K_82 hK rfl ?_
  refine jx_if_eq (tgt := 16) d_K_doTimers_4 (by decide) (fun c4 => ?_) (fun c4 => ?_)
  · exact jx_vret d_K_doTimers_16 rfl (by omega) (by omega) k
  · refine jx_aload_n (i := 0) d_K_doTimers_7 rfl rfl ?_
    refine jx_callV0 d_K_doTimers_8 mv_K_240 hK rfl (jx_ok_rm (by omega) (Nat.le_of_ble_eq_true rfl)) (Nat.le_of_ble_eq_true rfl) (jx_rmc (by omega)) (jx_rms (by omega)) (c_K_watermarkTime (d := 0) hK ?_)
    dsimp only [Option.toList, List.cons_append, List.nil_append]
    refine jx_lconst (v := 0) d_K_doTimers_11 (by decide) ?_
    refine jx_l_gt (tgt := 17) d_K_doTimers_12 d_K_doTimers_13 (by decide) (fun c12 => ?_) (fun c12 => ?_)
    · rcases h with h | h
      · exact absurd h c4
      · exact absurd c12 h
    · exact jx_vret d_K_doTimers_16 rfl (by omega) (by omega) k
theorem c_K_doTimers {W P T : Nat} (hd : 4 < d) (hP0 : 0 < P) (hP : P ≤ 100000) (hW0 : 0 < W) (hW : W < 2 ^ 60) (hT : T ≤ W / P * P) (hn : nO < 2 ^ 27) (hpe : pe = nI P) (hwm : gt - la.toInt64 = lN W) (hlt0 : lt = lN T) (hK : M a = some (kf_K la wi en pe (a + 1) (a + 2) (a + 3) (a + 5) (a + 7) lr fr gt lt tk lc db fc le)) (h7 : M (a + 7) = some (kf_T nO 300 8 (a + 8))) (h8 : M (a + 8) = some (kf_la 2400 oc)) (hF : kC_F G M a lo far nF fo fd fw) (hQ : kC_K G M a lo nF kar nK ko nm kd)
    (k : Z none (jx_up (ko_M M a (sp_dt nF fd nm kd nK (W / P * P) P (min ((W / P * P - T) / P) 20) (nO, oc))) a (kf_K la wi en pe (a + 1) (a + 2) (a + 3) (a + 5) (a + 7) lr fr gt (lN (W / P * P)) tk lc db fc le)) sz) : jx_Cr md_K_doTimers G d [.ref a] M sz 0 0 Z := by
  refine jx_ent rfl (Nat.le_of_ble_eq_true rfl) (l := [some (.ref a), none, none, none, none, none, none]) (by simp [jx_le, jx_eas, Value.category]) (fun hlt => ?_)
  have hnK := hQ.2.1
  have hlo := hF.2.2.1
  have hL : W / P * P ≤ W := Nat.div_mul_le_self W P
  have eP : pe.toInt64 = lN P := by rw [hpe]; exact nI_l (by omega)
  have hne0 : ¬ pe.toInt64 = 0 := by
    rw [eP]
    intro q
    have := (pk_lEQ (a := P) (b := 0) (by omega) (by omega)).mp q
    omega
  have eD : ∀ D, D = min ((W / P * P - T) / P) 20 → (if (20 : Int64) < lN ((W / P * P - T) / P) then (20 : Int64) else lN ((W / P * P - T) / P)) = lN D := by
    intro D hD
    have hb : (W / P * P - T) / P ≤ W / P * P - T := Nat.div_le_self _ _
    by_cases q : 20 < (W / P * P - T) / P
    · have hq : (20 : Int64) < lN ((W / P * P - T) / P) := (pk_lLT (a := 20) (by omega) (by omega)).mpr q
      rw [if_pos hq, hD, Nat.min_eq_right (by omega)]
      rfl
    · have hq : ¬ (20 : Int64) < lN ((W / P * P - T) / P) := fun z => q ((pk_lLT (a := 20) (by omega) (by omega)).mp z)
      rw [if_neg hq, hD, Nat.min_eq_left (by omega)]
  have loop : ∀ (b : Nat) (r : Nat × (Nat → Int64)), b ≤ 20 → r.1 + 30 * b ≤ nO + 600 → sp_dt nF fd nm kd nK (W / P * P) P b r = sp_dt nF fd nm kd nK (W / P * P) P (min ((W / P * P - T) / P) 20) (nO, oc) → ∀ x3 : Int64, jx_V md_K_doTimers [] G (jx_rm d 0 0) (jx_Q1 G 0 0 Z) 58 [some (.ref a), some (.long (lN (W / P * P))), none, some (.long x3), none, some (.long (lN b - 1)), none] [] (ko_M M a r) sz 0 0 := by
    intro b
    induction b with
    | zero =>
      intro r hb hr he x3
      have hK1 : ko_M M a r a = some (kf_K la wi en pe (a + 1) (a + 2) (a + 3) (a + 5) (a + 7) lr fr gt lt tk lc db fc le) := (ko_M_o _ _ (by omega) (by omega)).trans hK
      refine jx_lload d_K_doTimers_58 rfl ?_
      refine jx_lconst (v := 0) d_K_doTimers_60 (by decide) ?_
      refine jx_l_lt (tgt := 88) d_K_doTimers_61 d_K_doTimers_62 (by decide) (fun c61 => ?_) (fun c61 => ?_)
      · refine jx_aload_n (i := 0) d_K_doTimers_88 rfl rfl ?_
        refine jx_lload_n (i := 1) d_K_doTimers_89 rfl rfl ?_
        refine jx_putf d_K_doTimers_90 pf_K_51 hK1 (Nat.le_of_ble_eq_true rfl) rfl rfl ?_
        exact jx_vret d_K_doTimers_93 rfl (by omega) (by omega) (by rw [← he] at k; exact k)
      · exact absurd (by decide) c61
    | succ b ih =>
      intro r hb hr he x3
      rw [lN_pred]
      have hK1 : ko_M M a r a = some (kf_K la wi en pe (a + 1) (a + 2) (a + 3) (a + 5) (a + 7) lr fr gt lt tk lc db fc le) := (ko_M_o _ _ (by omega) (by omega)).trans hK
      have hQ1 := hQ.to (M' := ko_M M a r) (fun q hq => ko_M_o _ _ (by omega) (by omega))
      have hF1 := hF.to (M' := ko_M M a r) (fun q hq => ko_M_o _ _ (by omega) (by omega))
      refine jx_lload d_K_doTimers_58 rfl ?_
      refine jx_lconst (v := 0) d_K_doTimers_60 (by decide) ?_
      refine jx_l_lt (tgt := 88) d_K_doTimers_61 d_K_doTimers_62 (by decide) (fun c61 => ?_) (fun c61 => ?_)
      · exact absurd ((pk_lLT (a := b) (b := 0) (by omega) (by omega)).mp c61) (by omega)
      · refine jx_aload_n (i := 0) d_K_doTimers_65 rfl rfl ?_
        refine jx_lload_n (i := 1) d_K_doTimers_66 rfl rfl ?_
        refine jx_lload d_K_doTimers_67 rfl ?_
        refine jx_aload_n (i := 0) d_K_doTimers_69 rfl rfl ?_
        refine jx_getf d_K_doTimers_70 gf_K_82 hK1 rfl ?_
        refine jx_i2l d_K_doTimers_73 ?_
        rw [eP]
        refine jx_lmul d_K_doTimers_74 ?_
        refine jx_lsub d_K_doTimers_75 ?_
        refine jx_callV1 d_K_doTimers_76 mv_K_314 hK1 rfl (jx_ok_rm (by omega) (Nat.le_of_ble_eq_true rfl)) (Nat.le_of_ble_eq_true rfl) (jx_rmc (by omega)) (jx_rms (by omega)) (c_K_tellStatesBelow (d := 4) (by omega) (by omega) hK1 (ko_M_7 _ _ _) (ko_M_8 _ _ _) hF1 hQ1 ?_)
        dsimp only [Option.toList, List.cons_append, List.nil_append]
        have e1 : ko_M (ko_M M a r) a (sp_tl nF fd nm kd (lN (W / P * P) - lN b * lN P) nK (r.1, r.2)) = ko_M M a (sp_tl nF fd nm kd (lN (W / P * P) - lN b * lN P) nK r) := by
          rw [show ko_M (ko_M M a r) a (sp_tl nF fd nm kd (lN (W / P * P) - lN b * lN P) nK (r.1, r.2)) = jx_up (jx_up (ko_M M a r) (a + 7) (kf_T (sp_tl nF fd nm kd (lN (W / P * P) - lN b * lN P) nK r).1 300 8 (a + 8))) (a + 8) (kf_la 2400 (sp_tl nF fd nm kd (lN (W / P * P) - lN b * lN P) nK r).2) from rfl]
          exact ko_M_u _ _ _ _
        rw [e1]
        have hle := sp_tl_le nF fd nm kd (lN (W / P * P) - lN b * lN P) nK r
        refine jx_lload d_K_doTimers_79 rfl ?_
        refine jx_lconst (v := 1) d_K_doTimers_81 (by decide) ?_
        refine jx_lsub d_K_doTimers_82 ?_
        refine jx_lstore d_K_doTimers_83 (Nat.le_of_ble_eq_true rfl) (jx_f7_5 (by trivial)) ?_
        refine jx_goto (tgt := 58) d_K_doTimers_85 (by decide) ?_
        exact ih _ (by omega) (by omega) he x3
  refine jx_aload_n (i := 0) d_K_doTimers_0 rfl rfl ?_
  refine jx_getf d_K_doTimers_1 gf_K_82 hK rfl ?_
  refine jx_if_eq (tgt := 16) d_K_doTimers_4 (by decide) (fun c4 => ?_) (fun c4 => ?_)
  · exfalso
    rw [hpe] at c4
    have := (nI_eq (a := P) (b := 0) (by omega) (by omega)).mp c4
    omega
  · refine jx_aload_n (i := 0) d_K_doTimers_7 rfl rfl ?_
    refine jx_callV0 d_K_doTimers_8 mv_K_240 hK rfl (jx_ok_rm (by omega) (Nat.le_of_ble_eq_true rfl)) (Nat.le_of_ble_eq_true rfl) (jx_rmc (by omega)) (jx_rms (by omega)) (c_K_watermarkTime (d := 0) hK ?_)
    dsimp only [Option.toList, List.cons_append, List.nil_append]
    rw [hwm]
    refine jx_lconst (v := 0) d_K_doTimers_11 (by decide) ?_
    refine jx_l_gt (tgt := 17) d_K_doTimers_12 d_K_doTimers_13 (by decide) (fun c12 => ?_) (fun c12 => ?_)
    · refine jx_aload_n (i := 0) d_K_doTimers_17 rfl rfl ?_
      refine jx_callV0 d_K_doTimers_18 mv_K_240 hK rfl (jx_ok_rm (by omega) (Nat.le_of_ble_eq_true rfl)) (Nat.le_of_ble_eq_true rfl) (jx_rmc (by omega)) (jx_rms (by omega)) (c_K_watermarkTime (d := 0) hK ?_)
      dsimp only [Option.toList, List.cons_append, List.nil_append]
      rw [hwm]
      refine jx_aload_n (i := 0) d_K_doTimers_21 rfl rfl ?_
      refine jx_getf d_K_doTimers_22 gf_K_82 hK rfl ?_
      refine jx_i2l d_K_doTimers_25 ?_
      refine jx_ldiv d_K_doTimers_26 hne0 ?_
      rw [eP, pk_lDiv (by omega) hP0 (by omega)]
      refine jx_aload_n (i := 0) d_K_doTimers_27 rfl rfl ?_
      refine jx_getf d_K_doTimers_28 gf_K_82 hK rfl ?_
      refine jx_i2l d_K_doTimers_31 ?_
      refine jx_lmul d_K_doTimers_32 ?_
      rw [eP, lN_mul]
      refine jx_lstore_n (i := 1) d_K_doTimers_33 rfl (Nat.le_of_ble_eq_true rfl) (jx_f7_1 (by trivial)) ?_
      refine jx_lload_n (i := 1) d_K_doTimers_34 rfl rfl ?_
      refine jx_aload_n (i := 0) d_K_doTimers_35 rfl rfl ?_
      refine jx_getf d_K_doTimers_36 gf_K_51 hK rfl ?_
      refine jx_lsub d_K_doTimers_39 ?_
      rw [hlt0, lN_sub hT]
      refine jx_aload_n (i := 0) d_K_doTimers_40 rfl rfl ?_
      refine jx_getf d_K_doTimers_41 gf_K_82 hK rfl ?_
      refine jx_i2l d_K_doTimers_44 ?_
      refine jx_ldiv d_K_doTimers_45 hne0 ?_
      have hdv : (W / P * P - T) / P ≤ W / P * P - T := Nat.div_le_self _ _
      rw [eP, pk_lDiv (by omega) hP0 (by omega)]
      refine jx_ldc2 d_K_doTimers_46 rfl nv_K_310 ?_
      refine jx_mminl d_K_doTimers_49 ms_K_312.1.1 (Nat.succ_le_succ (Nat.zero_le _)) (jx_rmm (Nat.le_of_ble_eq_true rfl)) (jx_rmc (by omega)) (jx_rms (by omega)) ?_
      rw [eD _ rfl]
      refine jx_lstore_n (i := 3) d_K_doTimers_52 rfl (Nat.le_of_ble_eq_true rfl) (jx_f7_3 (by trivial)) ?_
      refine jx_lload_n (i := 3) d_K_doTimers_53 rfl rfl ?_
      refine jx_lconst (v := 1) d_K_doTimers_54 (by decide) ?_
      refine jx_lsub d_K_doTimers_55 ?_
      refine jx_lstore d_K_doTimers_56 (Nat.le_of_ble_eq_true rfl) (jx_f7_5 (by trivial)) ?_
      have := loop (min ((W / P * P - T) / P) 20) (nO, oc) (Nat.min_le_right _ _) (by have := Nat.min_le_right ((W / P * P - T) / P) 20; show nO + 30 * _ ≤ _; omega) rfl (lN (min ((W / P * P - T) / P) 20))
      rw [ko_M_id h7 h8] at this
      exact this
    · exact absurd ((pk_lLT (a := 0) (b := W) (by omega) (by omega)).mpr hW0) c12
theorem c_K_letRowsLeave_idle {fl kl so ao oo : Nat} (hK : M a = some (kf_K la wi en pe fl kl so ao oo lr fr gt lt tk lc db fc le)) (h : wi = 0) (k : Z none M sz) : jx_Cr md_K_letRowsLeave G d [.ref a] M sz 0 0 Z := by
  refine jx_ent rfl (Nat.le_of_ble_eq_true rfl) (l := [some (.ref a), none]) (by simp [jx_le, jx_eas, Value.category]) (fun hlt => ?_)
  refine jx_aload_n (i := 0) d_K_letRowsLeave_0 rfl rfl ?_
  refine jx_getf d_K_letRowsLeave_1 gf_K_76 hK rfl ?_
  refine jx_if_ne (tgt := 8) d_K_letRowsLeave_4 (by decide) (fun c4 => ?_) (fun c4 => ?_)
  · exact absurd h c4
  · exact jx_vret d_K_letRowsLeave_7 rfl (by omega) (by omega) k
theorem c_K_letRowsLeave {thr : Int64} (hd : 4 < d) (hwi : ¬ wi = 0) (hthr : thr = gt - la.toInt64 - wi.toInt64) (hK : M a = some (kf_K la wi en pe (a + 1) (a + 2) (a + 3) (a + 5) (a + 7) lr fr gt lt tk lc db fc le)) (hF : kC_F G M a lo far nF fo fd fw) (hQ : kC_K G M a lo nF kar nK ko nm kd)
    (k : ∀ M', M' a = some (kf_K la wi en pe (a + 1) (a + 2) (a + 3) (a + 5) (a + 7) lr fr gt lt tk lc db fc (sp_ws (fun j => nI (sp_lg thr (kd j))) le nK)) → kC_K G M' a lo nF kar nK ko nm (sp_um nK (fun j => sp_lv fd nF thr (kd j)) kd) → (∀ q, q ≠ a → q < lo → M' q = M q) → Z none M' sz) : jx_Cr md_K_letRowsLeave G d [.ref a] M sz 0 0 Z := by
  refine jx_ent rfl (Nat.le_of_ble_eq_true rfl) (l := [some (.ref a), none]) (by simp [jx_le, jx_eas, Value.category]) (fun hlt => ?_)
  have hnK := hQ.2.1
  have hlo := hF.2.2.1
  have loop : ∀ (j i : Nat) (M1 : jx_H), i + j = nK → M1 a = some (kf_K la wi en pe (a + 1) (a + 2) (a + 3) (a + 5) (a + 7) lr fr gt lt tk lc db fc (sp_ws (fun j => nI (sp_lg thr (kd j))) le i)) → kC_K G M1 a lo nF kar nK ko nm (sp_um i (fun j => sp_lv fd nF thr (kd j)) kd) → (∀ q, q ≠ a → q < lo → M1 q = M q) → jx_V md_K_letRowsLeave [] G (jx_rm d 0 0) (jx_Q1 G 0 0 Z) 10 [some (.ref a), some (.int (nI i))] [] M1 sz 0 0 := by
    intro j
    induction j with
    | zero =>
      intro i M1 hi hK1 hQ1 hf1
      obtain ⟨mo, hA⟩ := hQ1.1.1
      refine jx_iload_n (i := 1) d_K_letRowsLeave_10 rfl rfl ?_
      refine jx_aload_n (i := 0) d_K_letRowsLeave_11 rfl rfl ?_
      refine jx_getf d_K_letRowsLeave_12 gf_K_16 hK1 rfl ?_
      refine jx_callV0 d_K_letRowsLeave_15 mv_K_92 hA rfl (jx_ok_rm (by omega) (Nat.le_of_ble_eq_true rfl)) (Nat.le_of_ble_eq_true rfl) (jx_rmc (by omega)) (jx_rms (by omega)) (c_L_size (d := 0) hQ1.1 ?_)
      dsimp only [Option.toList, List.cons_append, List.nil_append]
      refine jx_icmp_ge (tgt := 60) d_K_letRowsLeave_18 (by decide) (fun c18 => ?_) (fun c18 => ?_)
      · exact jx_vret d_K_letRowsLeave_60 rfl (by omega) (by omega) (by
          have e : i = nK := by omega
          subst e
          exact k _ hK1 hQ1 hf1)
      · exact absurd ((nI_leI (by omega) (by omega)).mpr (by omega)) c18
    | succ j ih =>
      intro i M1 hi hK1 hQ1 hf1
      obtain ⟨mo, hA⟩ := hQ1.1.1
      have hF1 := hF.to (M' := M1) (fun q hq => hf1 q (by omega) (by omega))
      have hki := hQ1.2.2.2.1 i (by omega)
      rw [sp_um_i] at hki
      have hgle : sp_lg thr (kd i) ≤ (kd i).1 := sp_ld_le _ _
      refine jx_iload_n (i := 1) d_K_letRowsLeave_10 rfl rfl ?_
      refine jx_aload_n (i := 0) d_K_letRowsLeave_11 rfl rfl ?_
      refine jx_getf d_K_letRowsLeave_12 gf_K_16 hK1 rfl ?_
      refine jx_callV0 d_K_letRowsLeave_15 mv_K_92 hA rfl (jx_ok_rm (by omega) (Nat.le_of_ble_eq_true rfl)) (Nat.le_of_ble_eq_true rfl) (jx_rmc (by omega)) (jx_rms (by omega)) (c_L_size (d := 0) hQ1.1 ?_)
      dsimp only [Option.toList, List.cons_append, List.nil_append]
      refine jx_icmp_ge (tgt := 60) d_K_letRowsLeave_18 (by decide) (fun c18 => ?_) (fun c18 => ?_)
      · exact absurd ((nI_leI (by omega) (by omega)).mp c18) (by omega)
      · refine jx_aload_n (i := 0) d_K_letRowsLeave_21 rfl rfl ?_
        refine jx_dup d_K_letRowsLeave_22 rfl ?_
        refine jx_getf d_K_letRowsLeave_23 gf_K_66 hK1 rfl ?_
        refine jx_aload_n (i := 0) d_K_letRowsLeave_26 rfl rfl ?_
        refine jx_getf d_K_letRowsLeave_27 gf_K_16 hK1 rfl ?_
        refine jx_iload_n (i := 1) d_K_letRowsLeave_30 rfl rfl ?_
        refine jx_callV1 d_K_letRowsLeave_31 mv_K_125 hA rfl (jx_ok_rm (by omega) (Nat.le_of_ble_eq_true rfl)) (Nat.le_of_ble_eq_true rfl) (jx_rmc (by omega)) (jx_rms (by omega)) (c_L_get (d := 2) (by omega) hQ1.1 (by omega) ?_)
        dsimp only [Option.toList, List.cons_append, List.nil_append]
        refine jx_castn d_K_letRowsLeave_34 hki.2.1.1 rfl nk_K_196 nx_R_KeyedFolds_KeyRows ?_
        refine jx_aload_n (i := 0) d_K_letRowsLeave_37 rfl rfl ?_
        refine jx_callV0 d_K_letRowsLeave_38 mv_K_240 hK1 rfl (jx_ok_rm (by omega) (Nat.le_of_ble_eq_true rfl)) (Nat.le_of_ble_eq_true rfl) (jx_rmc (by omega)) (jx_rms (by omega)) (c_K_watermarkTime (d := 0) hK1 ?_)
        dsimp only [Option.toList, List.cons_append, List.nil_append]
        refine jx_aload_n (i := 0) d_K_letRowsLeave_41 rfl rfl ?_
        refine jx_getf d_K_letRowsLeave_42 gf_K_76 hK1 rfl ?_
        refine jx_i2l d_K_letRowsLeave_45 ?_
        refine jx_lsub d_K_letRowsLeave_46 ?_
        rw [← hthr]
        refine jx_callV1 d_K_letRowsLeave_47 mv_K_307 hki.2.1.1 rfl (jx_ok_rm (by omega) (Nat.le_of_ble_eq_true rfl)) (Nat.le_of_ble_eq_true rfl) (jx_rmc (by omega)) (jx_rms (by omega)) (c_R_leaveBelow (d := 4) (by omega) hki.1 (g := sp_lg thr (kd i)) rfl hki.2.1 hF1.1 ?_ ?_)
        dsimp only [Option.toList, List.cons_append, List.nil_append]
        · intro hg
          try dsimp only [Option.toList, List.cons_append, List.nil_append]
          have e1 : sp_ws (fun j => nI (sp_lg thr (kd j))) le (i + 1) = sp_ws (fun j => nI (sp_lg thr (kd j))) le i + nI 0 := by
            show _ + nI (sp_lg thr (kd i)) = _
            rw [hg]
          refine jx_iadd d_K_letRowsLeave_50 ?_
          rw [← e1]
          refine jx_putf d_K_letRowsLeave_51 pf_K_66 hK1 (Nat.le_of_ble_eq_true rfl) rfl rfl ?_
          refine jx_iinc d_K_letRowsLeave_54 rfl (Nat.le_of_ble_eq_true rfl) (jx_e2_1 (by trivial)) ?_
          refine jx_goto (tgt := 10) d_K_letRowsLeave_57 (by decide) ?_
          rw [nI_1]
          refine ih (i + 1) _ (by omega) (jx_up_s _ _ _) ?_ (fun q q1 q2 => (jx_up_n _ _ q1).trans (hf1 q q1 q2))
          rw [sp_um_e (show sp_lv fd nF thr (kd i) = kd i by rw [sp_lv, if_pos hg])]
          exact hQ1.to (fun q hq => jx_up_n _ _ (by omega))
        · intro hg M2 h2 hf2
          try dsimp only [Option.toList, List.cons_append, List.nil_append]
          have hlv : sp_lv fd nF thr (kd i) = sp_lx fd nF thr (kd i) := by rw [sp_lv, if_neg (by omega)]
          have hki2 := hki.2.2
          have hK2 : M2 a = some (kf_K la wi en pe (a + 1) (a + 2) (a + 3) (a + 5) (a + 7) lr fr gt lt tk lc db fc (sp_ws (fun j => nI (sp_lg thr (kd j))) le i)) := by
            rw [hf2 a (by omega) (by omega) (by omega) (by omega)]
            exact hK1
          have hQ2 := hQ1.set (i := i) (by omega) (q' := sp_lv fd nF thr (kd i)) (by omega) (by rw [hlv]; show (kd i).1 - _ ≤ 60; have := hki.1; omega) (by rw [hlv]; exact h2) hf2
          have e1 : sp_ws (fun j => nI (sp_lg thr (kd j))) le (i + 1) = sp_ws (fun j => nI (sp_lg thr (kd j))) le i + nI (sp_lg thr (kd i)) := rfl
          refine jx_iadd d_K_letRowsLeave_50 ?_
          rw [← e1]
          refine jx_putf d_K_letRowsLeave_51 pf_K_66 hK2 (Nat.le_of_ble_eq_true rfl) rfl rfl ?_
          refine jx_iinc d_K_letRowsLeave_54 rfl (Nat.le_of_ble_eq_true rfl) (jx_e2_1 (by trivial)) ?_
          refine jx_goto (tgt := 10) d_K_letRowsLeave_57 (by decide) ?_
          rw [nI_1]
          refine ih (i + 1) _ (by omega) (jx_up_s _ _ _) ?_ (fun q q1 q2 => (jx_up_n _ _ q1).trans ((hf2 q (by omega) (by omega) (by omega) (by omega)).trans (hf1 q q1 q2)))
          rw [← sp_um_s]
          exact hQ2.to (fun q hq => jx_up_n _ _ (by omega))
  refine jx_aload_n (i := 0) d_K_letRowsLeave_0 rfl rfl ?_
  refine jx_getf d_K_letRowsLeave_1 gf_K_76 hK rfl ?_
  refine jx_if_ne (tgt := 8) d_K_letRowsLeave_4 (by decide) (fun c4 => ?_) (fun c4 => ?_)
  · refine jx_iconst (v := 0) d_K_letRowsLeave_8 (by decide) ?_
    refine jx_istore_n (i := 1) d_K_letRowsLeave_9 rfl (Nat.le_of_ble_eq_true rfl) (jx_e2_1 (by trivial)) ?_
    exact loop nK 0 M (by omega) hK (by rw [sp_um_0]; exact hQ) (fun _ _ _ => rfl)
  · exact absurd c4 hwi
theorem c_K_startStates (hd : 2 < d) {kl so ao oo : Nat} {fl : Nat} (hK : M a = some (kf_K la wi en pe fl kl so ao oo lr fr gt lt tk lc db fc le)) (hF : kf_Fs G M fl far nF fo fd) (k : Z (some (.ref sz)) (jx_up M sz (kf_la nF (sp_ut nF (fun f => (fd f).2.1) (fun _ => 0)))) (sz + 1)) : jx_Cr md_K_startStates G d [.ref a] M sz 1 nF Z := by
  refine jx_ent rfl (Nat.le_of_ble_eq_true rfl) (l := [some (.ref a), none, none]) (by simp [jx_le, jx_eas, Value.category]) (fun hlt => ?_)
  have hnF := hF.2.1
  have hns : a ≠ sz := Nat.ne_of_lt (hlt a _ hK)
  obtain ⟨mo, hA⟩ := hF.1.1
  have key0 : ∀ e : jx_E, kf_Fs G (jx_up M sz e) fl far nF fo fd := by
    intro e
    obtain ⟨⟨⟨mo, g1⟩, g2⟩, g3, g4⟩ := hF
    have kk : ∀ q e', M q = some e' → jx_up M sz e q = some e' := fun q e' h => (jx_up_n _ _ (Nat.ne_of_lt (hlt q _ h))).trans h
    refine ⟨⟨⟨mo, kk _ _ g1⟩, ?_⟩, g3, fun i hi => ⟨(g4 i hi).1, kk _ _ (g4 i hi).2⟩⟩
    rcases g2 with g2 | ⟨N, f, e1, e2⟩
    · exact Or.inl g2
    · exact Or.inr ⟨N, f, kk _ _ e1, e2⟩
  have loop : ∀ (j f : Nat), f + j = nF → jx_V md_K_startStates [] G (jx_rm d 1 nF) (jx_Q1 G 1 nF Z) 12 [some (.ref a), some (.ref sz), some (.int (nI f))] [] (jx_up M sz (kf_la nF (sp_ut f (fun f => (fd f).2.1) (fun _ => 0)))) (sz + 1) (0 + 1) (0 + nF) := by
    intro j
    induction j with
    | zero =>
      intro f hi
      refine jx_iload_n (i := 2) d_K_startStates_12 rfl rfl ?_
      refine jx_aload_n (i := 1) d_K_startStates_13 rfl rfl ?_
      refine jx_alen (t0 := 1) d_K_startStates_14 (jx_up_s _ _ _) rfl ?_
      refine jx_icmp_ge (tgt := 41) d_K_startStates_15 (by decide) (fun c15 => ?_) (fun c15 => ?_)
      · refine jx_aload_n (i := 1) d_K_startStates_41 rfl rfl ?_
        exact jx_aret d_K_startStates_42 rfl (Or.inr ⟨_, rfl⟩) (by omega) (by omega) (by
          have e : f = nF := by omega
          subst e
          exact k)
      · exact absurd ((nI_leI (by omega) (by omega)).mpr (by omega)) c15
    | succ j ih =>
      intro f hi
      have hF1 := key0 (kf_la nF (sp_ut f (fun f => (fd f).2.1) (fun _ => 0)))
      obtain ⟨mo, hA⟩ := hF1.1.1
      have hfd := hF1.2.2 f (by omega)
      refine jx_iload_n (i := 2) d_K_startStates_12 rfl rfl ?_
      refine jx_aload_n (i := 1) d_K_startStates_13 rfl rfl ?_
      refine jx_alen (t0 := 1) d_K_startStates_14 (jx_up_s _ _ _) rfl ?_
      refine jx_icmp_ge (tgt := 41) d_K_startStates_15 (by decide) (fun c15 => ?_) (fun c15 => ?_)
      · exact absurd ((nI_leI (by omega) (by omega)).mp c15) (by omega)
      · refine jx_aload_n (i := 1) d_K_startStates_18 rfl rfl ?_
        refine jx_iload_n (i := 2) d_K_startStates_19 rfl rfl ?_
        refine jx_aload_n (i := 0) d_K_startStates_20 rfl rfl ?_
        refine jx_getf d_K_startStates_21 gf_K_10 ((jx_up_n _ _ hns).trans hK) rfl ?_
        refine jx_iload_n (i := 2) d_K_startStates_24 rfl rfl ?_
        refine jx_callV1 d_K_startStates_25 mv_K_125 hA rfl (jx_ok_rm (by omega) (Nat.le_of_ble_eq_true rfl)) (Nat.le_of_ble_eq_true rfl) (jx_rmc (by omega)) (jx_rms (by omega)) (c_L_get (d := 2) (by omega) hF1.1 (by omega) ?_)
        dsimp only [Option.toList, List.cons_append, List.nil_append]
        refine jx_castn d_K_startStates_28 hfd.2 rfl nk_K_107 nx_F_KeyedFolds_Fold ?_
        refine jx_getf d_K_startStates_31 gf_K_304 hfd.2 rfl ?_
        refine jx_last (t0 := 1) d_K_startStates_34 (jx_up_s _ _ _) rfl (vp_in_nI (by omega) (by omega)) ?_
        rw [nI_clamp (by omega), jx_up_u, sp_ut_s f (fun f => (fd f).2.1) (fun _ => 0)]
        refine jx_iinc d_K_startStates_35 rfl (Nat.le_of_ble_eq_true rfl) (jx_e3_2 (by trivial)) ?_
        refine jx_goto (tgt := 12) d_K_startStates_38 (by decide) ?_
        rw [nI_1]
        exact ih (f + 1) (by omega)
  refine jx_aload_n (i := 0) d_K_startStates_0 rfl rfl ?_
  refine jx_getf d_K_startStates_1 gf_K_10 hK rfl ?_
  refine jx_callV0 d_K_startStates_4 mv_K_92 hA rfl (jx_ok_rm (by omega) (Nat.le_of_ble_eq_true rfl)) (Nat.le_of_ble_eq_true rfl) (jx_rmc (by omega)) (jx_rms (by omega)) (c_L_size (d := 0) hF.1 ?_)
  dsimp only [Option.toList, List.cons_append, List.nil_append]
  refine jx_newa (N := nF) (ak := 51) (t0 := 1) (a0 := (nF, .inr (.inl fun _ => 0))) d_K_startStates_7 rfl na_long rfl (fun _ => rfl) (nI_pos (by omega)) (nI_clamp (by omega)) (by show _ * 8 ≤ _; omega) (jx_rmc (by omega)) (jx_rms (by omega)) (fun hno => ?_)
  refine jx_astore_n (i := 1) d_K_startStates_9 rfl (Nat.le_of_ble_eq_true rfl) (jx_e3_1 (by trivial)) ?_
  refine jx_iconst (v := 0) d_K_startStates_10 (by decide) ?_
  refine jx_istore_n (i := 2) d_K_startStates_11 rfl (Nat.le_of_ble_eq_true rfl) (jx_e3_2 (by trivial)) ?_
  have := loop nF 0 (by omega)
  rw [sp_ut_0] at this
  exact this
end CK4
