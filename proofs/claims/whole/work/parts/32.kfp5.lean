/-! PART 32: KeyedFolds: the whole object; row -/
def kW (G : jx_G) (M : jx_H) (a lo far kar : Nat) (la wi en pe : Int32) (lr fr : Int32) (gt lt : Int64) (tk lc db fc le : Int32) (nF : Nat) (fo : Nat → Nat) (fd : sp_fd) (fw : Nat → Nat → Int64) (nK : Nat) (ko : Nat → Nat) (nm : Nat → Int64) (kd : Nat → sp_key) (nS : Nat) (sn : Nat → Int64) (nA : Nat) (ac : Nat → Int64) (nO : Nat) (oc : Nat → Int64) : Prop :=
  M a = some (kf_K la wi en pe (a + 1) (a + 2) (a + 3) (a + 5) (a + 7) lr fr gt lt tk lc db fc le) ∧ M (a + 3) = some (kf_S (a + 4) nS) ∧ M (a + 4) = some (kf_la 512 sn) ∧ M (a + 5) = some (kf_T nA 100 4 (a + 6)) ∧ M (a + 6) = some (kf_la 400 ac) ∧ M (a + 7) = some (kf_T nO 300 8 (a + 8)) ∧ M (a + 8) = some (kf_la 2400 oc) ∧ kC_F G M a lo far nF fo fd fw ∧ kC_K G M a lo nF kar nK ko nm kd
theorem kC_K.toA {G : jx_G} {M M' : jx_H} {a lo nF kar nK : Nat} {ko : Nat → Nat} {nm : Nat → Int64} {kd : Nat → sp_key} (h : kC_K G M a lo nF kar nK ko nm kd) (hf : ∀ q, q = a + 2 ∨ lo ≤ q → M' q = M q) : kC_K G M' a lo nF kar nK ko nm kd := h.to hf
/-- the highest time seen, as a number: 0 where there is none yet -/
def sp_gt (gt : Int64) (g : Nat) : Prop := (gt = -1 ∧ g = 0) ∨ gt = lN g
theorem sp_gt_max {gt : Int64} {g n : Nat} (h : sp_gt gt g) (hg : g ≤ 2 ^ 40) (hn : n ≤ 2 ^ 40) : (if lN n < gt then gt else lN n) = lN (max g n) := by
  rcases h with ⟨h, h0⟩ | h
  · subst h0
    have h1 : ¬ lN n < gt := by
      rw [h, Int64.lt_iff_toInt_lt, pk_lT (by omega), show (-1 : Int64).toInt = -1 by decide]
      omega
    rw [if_neg h1, Nat.zero_max]
  · rw [h]
    by_cases hlt : n < g
    · rw [if_pos ((pk_lLT (by omega) (by omega)).mpr hlt), Nat.max_eq_left (by omega)]
    · rw [if_neg (fun hh => hlt ((pk_lLT (by omega) (by omega)).mp hh)), Nat.max_eq_right (by omega)]
/-- what timers do to the outputs and to the time of the last one -/
def sp_to (nF : Nat) (fd : sp_fd) (nm : Nat → Int64) (kd : Nat → sp_key) (nK g A P T : Nat) (r : Nat × (Nat → Int64)) : Nat × (Nat → Int64) := if P = 0 ∨ g ≤ A then r else sp_dt nF fd nm kd nK ((g - A) / P * P) P (min (((g - A) / P * P - T) / P) 20) r
def sp_tT (g A P T : Nat) : Nat := if P = 0 ∨ g ≤ A then T else (g - A) / P * P
/-- what is left of the keys behind letRowsLeave -/
def sp_lk (fd : sp_fd) (nF : Nat) (wi : Int32) (thr : Int64) (nK : Nat) (kd : Nat → sp_key) : Nat → sp_key := if wi = 0 then kd else sp_um nK (fun j => sp_lv fd nF thr (kd j)) kd
def sp_ll (wi : Int32) (thr : Int64) (nK : Nat) (kd : Nat → sp_key) (le : Int32) : Int32 := if wi = 0 then le else sp_ws (fun j => nI (sp_lg thr (kd j))) le nK
section CP5
variable {G : jx_G} {d a lo far kar nF nK sz nS nA nO : Nat} {la wi en pe lr fr tk lc db fc le : Int32} {gt lt t v key : Int64} {fo ko : Nat → Nat} {nm : Nat → Int64} {kd : Nat → sp_key} {fd : sp_fd} {fw : Nat → Nat → Int64} {sn ac oc : Nat → Int64} {M : jx_H} {Z : Option Value → jx_H → Nat → Prop} {ZX : String → jx_H → Nat → Prop}
/-- letRowsLeave, doTimers -/
theorem v_K_row2 {P T A g kc ks : Nat} {x : Int32} (hd : 7 < d) (hkc : kc ≤ 5) (hks : ks ≤ 178) (hA : la = nI A) (hA1 : A ≤ 100000) (hP : pe = nI P) (hP1 : P ≤ 100000) (hg : gt = lN g) (hg1 : g ≤ 2 ^ 40) (hlt0 : lt = lN T) (hT : T ≤ (g - A) / P * P) (hnO : nO < 2 ^ 27) (hW : kW G M a lo far kar la wi en pe lr fr gt lt tk lc db fc le nF fo fd fw nK ko nm kd nS sn nA ac nO oc)
    (k : ∀ M', kW G M' a lo far kar la wi en pe lr fr gt (lN (sp_tT g A P T)) tk lc db fc (sp_ll wi (gt - la.toInt64 - wi.toInt64) nK kd le) nF fo fd fw nK ko nm (sp_lk fd nF wi (gt - la.toInt64 - wi.toInt64) nK kd) nS sn nA ac ((sp_to nF fd nm (sp_lk fd nF wi (gt - la.toInt64 - wi.toInt64) nK kd) nK g A P T (nO, oc)).1) ((sp_to nF fd nm (sp_lk fd nF wi (gt - la.toInt64 - wi.toInt64) nK kd) nK g A P T (nO, oc)).2) → (∀ q, a + 9 ≤ q → q < a + 24 → M' q = M q) → Z (some (.int x)) M' sz) :
    jx_V md_K_row [] G (jx_rm d 5 178) (jx_Q2 G 5 178 Z ZX) 129 [some (.ref a), some (.long key), none, some (.long t), none, some (.long v), none, some (.int x)] [] M sz kc ks := by
  have fin : ∀ (M1 : jx_H), kW G M1 a lo far kar la wi en pe lr fr gt lt tk lc db fc (sp_ll wi (gt - la.toInt64 - wi.toInt64) nK kd le) nF fo fd fw nK ko nm (sp_lk fd nF wi (gt - la.toInt64 - wi.toInt64) nK kd) nS sn nA ac nO oc → (∀ q, a + 9 ≤ q → q < a + 24 → M1 q = M q) → jx_V md_K_row [] G (jx_rm d 5 178) (jx_Q2 G 5 178 Z ZX) 133 [some (.ref a), some (.long key), none, some (.long t), none, some (.long v), none, some (.int x)] [] M1 sz kc ks := by
    intro M1 hW1 hf1
    obtain ⟨w1, w2, w3, w4, w5, w6, w7, w8, w9⟩ := id hW1
    have hlo := w8.2.2.1
    refine jx_aload_n (i := 0) d_K_row_133 rfl rfl ?_
    have hsub : (gt - la.toInt64).toInt = (g : Int) - A := by
      rw [hg, hA, nI_l (by omega), Int64.toInt_sub, pk_lT (by omega), pk_lT (by omega)]
      exact Int.bmod_eq_of_le (by omega) (by omega)
    by_cases hid : P = 0 ∨ g ≤ A
    · have hidle : pe = 0 ∨ ¬ 0 < gt - la.toInt64 := by
        rcases hid with h | h
        · exact Or.inl (by rw [hP, h]; rfl)
        · refine Or.inr ?_
          rw [Int64.lt_iff_toInt_lt, hsub, show (0 : Int64).toInt = 0 by decide]
          omega
      refine jx_callV0 d_K_row_134 mv_K_178 w1 rfl (jx_ok_rm (by omega) (Nat.le_of_ble_eq_true rfl)) (Nat.le_of_ble_eq_true rfl) (jx_rmc (by omega)) (jx_rms (by omega)) (c_K_doTimers_idle (d := 1) (by omega) w1 hidle ?_)
      dsimp only [Option.toList, List.cons_append, List.nil_append]
      refine jx_goto (tgt := 150) d_K_row_137 (by decide) ?_
      refine jx_iload d_K_row_150 rfl ?_
      refine jx_q2 ?_
      exact jx_iret d_K_row_152 rfl (by omega) (by omega) (k M1 (by rw [sp_to, if_pos hid, sp_tT, if_pos hid, ← hlt0]; exact hW1) hf1)
    · have hWm : gt - la.toInt64 = lN (g - A) := by
        apply Int64.toInt_inj.mp
        rw [hsub, pk_lT (by omega)]
        omega
      refine jx_callV0 d_K_row_134 mv_K_178 w1 rfl (jx_ok_rm (by omega) (Nat.le_of_ble_eq_true rfl)) (Nat.le_of_ble_eq_true rfl) (jx_rmc (by omega)) (jx_rms (by omega)) (c_K_doTimers (d := 5) (W := g - A) (P := P) (T := T) (by omega) (by omega) hP1 (by omega) (by omega) hT hnO hP hWm hlt0 w1 w6 w7 w8 w9 ?_)
      dsimp only [Option.toList, List.cons_append, List.nil_append]
      refine jx_goto (tgt := 150) d_K_row_137 (by decide) ?_
      refine jx_iload d_K_row_150 rfl ?_
      refine jx_q2 ?_
      refine jx_iret d_K_row_152 rfl (by omega) (by omega) (k _ ?_ ?_)
      · rw [sp_to, if_neg hid, sp_tT, if_neg hid]
        generalize sp_dt nF fd nm (sp_lk fd nF wi (gt - la.toInt64 - wi.toInt64) nK kd) nK ((g - A) / P * P) P (min (((g - A) / P * P - T) / P) 20) (nO, oc) = r
        have hq : ∀ q, q ≠ a → q ≠ a + 7 → q ≠ a + 8 → jx_up (ko_M M1 a r) a (kf_K la wi en pe (a + 1) (a + 2) (a + 3) (a + 5) (a + 7) lr fr gt (lN ((g - A) / P * P)) tk lc db fc (sp_ll wi (gt - la.toInt64 - wi.toInt64) nK kd le)) q = M1 q := fun q q1 q2 q3 => by rw [jx_up_n _ _ q1, ko_M_o _ _ q2 q3]
        refine ⟨jx_up_s _ _ _, ?_, ?_, ?_, ?_, ?_, ?_, ?_, ?_⟩
        · rw [hq _ (by omega) (by omega) (by omega)]; exact w2
        · rw [hq _ (by omega) (by omega) (by omega)]; exact w3
        · rw [hq _ (by omega) (by omega) (by omega)]; exact w4
        · rw [hq _ (by omega) (by omega) (by omega)]; exact w5
        · rw [jx_up_n _ _ (by omega), ko_M_7]
        · rw [jx_up_n _ _ (by omega), ko_M_8]
        · exact w8.to (fun q q1 => hq q (by omega) (by omega) (by omega))
        · exact w9.to (fun q q1 => hq q (by omega) (by omega) (by omega))
      · intro q q1 q2
        rw [jx_up_n _ _ (by omega), ko_M_o _ _ (by omega) (by omega)]
        exact hf1 q q1 q2
  obtain ⟨w1, w2, w3, w4, w5, w6, w7, w8, w9⟩ := id hW
  have hlo := w8.2.2.1
  refine jx_aload_n (i := 0) d_K_row_129 rfl rfl ?_
  by_cases hwi : wi = 0
  · refine jx_callV0 d_K_row_130 mv_K_175 w1 rfl (jx_ok_rm (by omega) (Nat.le_of_ble_eq_true rfl)) (Nat.le_of_ble_eq_true rfl) (jx_rmc (by omega)) (jx_rms (by omega)) (c_K_letRowsLeave_idle (d := 0) w1 hwi ?_)
    dsimp only [Option.toList, List.cons_append, List.nil_append]
    exact fin M (by rw [sp_ll, if_pos hwi, sp_lk, if_pos hwi]; exact hW) (fun q _ _ => rfl)
  · refine jx_callV0 d_K_row_130 mv_K_175 w1 rfl (jx_ok_rm (by omega) (Nat.le_of_ble_eq_true rfl)) (Nat.le_of_ble_eq_true rfl) (jx_rmc (by omega)) (jx_rms (by omega)) (c_K_letRowsLeave (d := 5) (by omega) hwi rfl w1 w8 w9 ?_)
    dsimp only [Option.toList, List.cons_append, List.nil_append]
    intro M1 h1 h2 h3
    try dsimp only [Option.toList, List.cons_append, List.nil_append]
    refine fin M1 ?_ (fun q q1 q2 => h3 q (by omega) (by omega))
    rw [sp_ll, if_neg hwi, sp_lk, if_neg hwi]
    refine ⟨h1, ?_, ?_, ?_, ?_, ?_, ?_, w8.to (fun q hq => h3 q (by omega) (by omega)), h2⟩
    · rw [h3 _ (by omega) (by omega)]; exact w2
    · rw [h3 _ (by omega) (by omega)]; exact w3
    · rw [h3 _ (by omega) (by omega)]; exact w4
    · rw [h3 _ (by omega) (by omega)]; exact w5
    · rw [h3 _ (by omega) (by omega)]; exact w6
    · rw [h3 _ (by omega) (by omega)]; exact w7
end CP5
