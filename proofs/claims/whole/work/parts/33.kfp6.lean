/-! PART 33: KeyedFolds: row -/
theorem kW.set {G : jx_G} {M M' : jx_H} {a lo far kar nF nK nS nA nO : Nat} {la wi en pe lr fr tk lc db fc le : Int32} {gt lt : Int64} {fo ko : Nat → Nat} {nm : Nat → Int64} {kd : Nat → sp_key} {fd : sp_fd} {fw : Nat → Nat → Int64} {sn ac oc : Nat → Int64} {lr' fr' tk' lc' db' fc' le' : Int32} {gt' lt' : Int64} {nS' nA' nO' : Nat} {sn' ac' oc' : Nat → Int64} (h : kW G M a lo far kar la wi en pe lr fr gt lt tk lc db fc le nF fo fd fw nK ko nm kd nS sn nA ac nO oc) (h0 : M' a = some (kf_K la wi en pe (a + 1) (a + 2) (a + 3) (a + 5) (a + 7) lr' fr' gt' lt' tk' lc' db' fc' le')) (h3 : M' (a + 3) = some (kf_S (a + 4) nS')) (h4 : M' (a + 4) = some (kf_la 512 sn')) (h5 : M' (a + 5) = some (kf_T nA' 100 4 (a + 6))) (h6 : M' (a + 6) = some (kf_la 400 ac')) (h7 : M' (a + 7) = some (kf_T nO' 300 8 (a + 8))) (h8 : M' (a + 8) = some (kf_la 2400 oc')) (hf : ∀ q, q = a + 1 ∨ q = a + 2 ∨ a + 24 ≤ q → M' q = M q) : kW G M' a lo far kar la wi en pe lr' fr' gt' lt' tk' lc' db' fc' le' nF fo fd fw nK ko nm kd nS' sn' nA' ac' nO' oc' := by
  have hlo := h.2.2.2.2.2.2.2.1.2.2.1
  exact ⟨h0, h3, h4, h5, h6, h7, h8, h.2.2.2.2.2.2.2.1.to (fun q hq => hf q (by omega)), h.2.2.2.2.2.2.2.2.to (fun q hq => hf q (by omega))⟩
section CP6
variable {G : jx_G} {d a lo far kar nF nK sz nS nA nO : Nat} {la wi en pe lr fr tk lc db fc le : Int32} {gt lt t v key : Int64} {fo ko : Nat → Nat} {nm : Nat → Int64} {kd : Nat → sp_key} {fd : sp_fd} {fw : Nat → Nat → Int64} {sn ac oc : Nat → Int64} {M : jx_H} {Z : Option Value → jx_H → Nat → Prop} {ZX : String → jx_H → Nat → Prop}
/-- behind the count of late rows: a row that is not taken -/
theorem v_K_row3 {kc ks : Nat} {x : Int32} (hd : 7 < d) (hkc : kc ≤ 5) (hks : ks ≤ 178) (hnS : nS < 512) (hnA : nA < 2 ^ 29) (hW : kW G M a lo far kar la wi en pe lr fr gt lt tk lc db fc le nF fo fd fw nK ko nm kd nS sn nA ac nO oc) (hx : x = 1 ∨ x = 2 ∨ x = 3 ∨ x = 4 ∨ x = 5 ∨ x = 6)
    (k1 : x = 1 → Z (some (.int 1)) M sz)
    (k2 : x = 2 → ∀ M', kW G M' a lo far kar la wi en pe lr fr gt lt tk lc db fc le nF fo fd fw nK ko nm kd nS sn (nA + 1) (sp_pa ac nA key t v (-1)) nO oc → (∀ q, a + 9 ≤ q → q < a + 24 → M' q = M q) → Z (some (.int 2)) M' sz)
    (k3 : x = 3 → ∀ M', kW G M' a lo far kar la wi en pe lr fr gt lt tk lc (db + 1) fc le nF fo fd fw nK ko nm kd nS sn nA ac nO oc → (∀ q, a + 9 ≤ q → q < a + 24 → M' q = M q) → Z (some (.int 3)) M' sz)
    (k4 : x = 4 → ∀ M', kW G M' a lo far kar la wi en pe lr fr gt lt tk lc db (fc + 1) le nF fo fd fw nK ko nm kd (nS + 1) (vp_updL sn nS key) nA ac nO oc → (∀ q, a + 9 ≤ q → q < a + 24 → M' q = M q) → Z (some (.int 4)) M' sz)
    (k5 : x = 5 → ∀ M', kW G M' a lo far kar la wi en pe lr fr gt lt tk lc db (fc + 1) le nF fo fd fw nK ko nm kd nS sn (nA + 1) (sp_pa ac nA key t v (kf_ix (sp_ix (sp_ff fd fw v) nF)).toInt64) nO oc → (∀ q, a + 9 ≤ q → q < a + 24 → M' q = M q) → Z (some (.int 5)) M' sz)
    (k6 : x = 6 → ∀ M', kW G M' a lo far kar la wi en pe lr fr gt lt tk lc db (fc + 1) le nF fo fd fw nK ko nm kd nS sn nA ac nO oc → (∀ q, a + 9 ≤ q → q < a + 24 → M' q = M q) → Z (some (.int 6)) M' sz) :
    jx_V md_K_row [] G (jx_rm d 5 178) (jx_Q2 G 5 178 Z ZX) 140 [some (.ref a), some (.long key), none, some (.long t), none, some (.long v), none, some (.int x)] [] M sz kc ks := by
  obtain ⟨w1, w2, w3, w4, w5, w6, w7, w8, w9⟩ := id hW
  have hlo := w8.2.2.1
  refine jx_aload_n (i := 0) d_K_row_140 rfl rfl ?_
  refine jx_iload d_K_row_141 rfl ?_
  refine jx_lload_n (i := 1) d_K_row_143 rfl rfl ?_
  refine jx_lload_n (i := 3) d_K_row_144 rfl rfl ?_
  refine jx_lload d_K_row_145 rfl ?_
  rcases hx with hx | hx | hx | hx | hx | hx
  · subst hx
    refine jx_callV4 d_K_row_147 mv_K_181 w1 rfl (jx_ok_rm (by omega) (Nat.le_of_ble_eq_true rfl)) (Nat.le_of_ble_eq_true rfl) (jx_rmc (by omega)) (jx_rms (by omega)) (c_K_turn1 (d := 0) ?_)
    dsimp only [Option.toList, List.cons_append, List.nil_append]
    refine jx_iload d_K_row_150 rfl ?_
    refine jx_q2 ?_
    exact jx_iret d_K_row_152 rfl (by omega) (by omega) (k1 rfl)
  · subst hx
    refine jx_callV4 d_K_row_147 mv_K_181 w1 rfl (jx_ok_rm (by omega) (Nat.le_of_ble_eq_true rfl)) (Nat.le_of_ble_eq_true rfl) (jx_rmc (by omega)) (jx_rms (by omega)) (c_K_turn2 (d := 2) (by omega) hnA w1 w4 w5 ?_)
    dsimp only [Option.toList, List.cons_append, List.nil_append]
    refine jx_iload d_K_row_150 rfl ?_
    refine jx_q2 ?_
    exact jx_iret d_K_row_152 rfl (by omega) (by omega) (k2 rfl _ (hW.set ((jx_up_n _ _ (by omega)).trans ((jx_up_n _ _ (by omega)).trans w1)) ((jx_up_n _ _ (by omega)).trans ((jx_up_n _ _ (by omega)).trans w2)) ((jx_up_n _ _ (by omega)).trans ((jx_up_n _ _ (by omega)).trans w3)) ((jx_up_n _ _ (by omega)).trans (jx_up_s _ _ _)) (jx_up_s _ _ _) ((jx_up_n _ _ (by omega)).trans ((jx_up_n _ _ (by omega)).trans w6)) ((jx_up_n _ _ (by omega)).trans ((jx_up_n _ _ (by omega)).trans w7)) (fun q hq => (jx_up_n _ _ (by omega)).trans (jx_up_n _ _ (by omega)))) (fun q q1 q2 => (jx_up_n _ _ (by omega)).trans (jx_up_n _ _ (by omega))))
  · subst hx
    refine jx_callV4 d_K_row_147 mv_K_181 w1 rfl (jx_ok_rm (by omega) (Nat.le_of_ble_eq_true rfl)) (Nat.le_of_ble_eq_true rfl) (jx_rmc (by omega)) (jx_rms (by omega)) (c_K_turn3 (d := 0) w1 ?_)
    dsimp only [Option.toList, List.cons_append, List.nil_append]
    refine jx_iload d_K_row_150 rfl ?_
    refine jx_q2 ?_
    exact jx_iret d_K_row_152 rfl (by omega) (by omega) (k3 rfl _ (hW.set (jx_up_s _ _ _) ((jx_up_n _ _ (by omega)).trans w2) ((jx_up_n _ _ (by omega)).trans w3) ((jx_up_n _ _ (by omega)).trans w4) ((jx_up_n _ _ (by omega)).trans w5) ((jx_up_n _ _ (by omega)).trans w6) ((jx_up_n _ _ (by omega)).trans w7) (fun q hq => (jx_up_n _ _ (by omega)))) (fun q q1 q2 => (jx_up_n _ _ (by omega))))
  · subst hx
    refine jx_callV4 d_K_row_147 mv_K_181 w1 rfl (jx_ok_rm (by omega) (Nat.le_of_ble_eq_true rfl)) (Nat.le_of_ble_eq_true rfl) (jx_rmc (by omega)) (jx_rms (by omega)) (c_K_turn4 (d := 1) hnS (by omega) w1 w2 w3 ?_)
    dsimp only [Option.toList, List.cons_append, List.nil_append]
    refine jx_iload d_K_row_150 rfl ?_
    refine jx_q2 ?_
    exact jx_iret d_K_row_152 rfl (by omega) (by omega) (k4 rfl _ (hW.set ((jx_up_n _ _ (by omega)).trans ((jx_up_n _ _ (by omega)).trans (jx_up_s _ _ _))) (jx_up_s _ _ _) ((jx_up_n _ _ (by omega)).trans (jx_up_s _ _ _)) ((jx_up_n _ _ (by omega)).trans ((jx_up_n _ _ (by omega)).trans ((jx_up_n _ _ (by omega)).trans w4))) ((jx_up_n _ _ (by omega)).trans ((jx_up_n _ _ (by omega)).trans ((jx_up_n _ _ (by omega)).trans w5))) ((jx_up_n _ _ (by omega)).trans ((jx_up_n _ _ (by omega)).trans ((jx_up_n _ _ (by omega)).trans w6))) ((jx_up_n _ _ (by omega)).trans ((jx_up_n _ _ (by omega)).trans ((jx_up_n _ _ (by omega)).trans w7))) (fun q hq => (jx_up_n _ _ (by omega)).trans ((jx_up_n _ _ (by omega)).trans (jx_up_n _ _ (by omega))))) (fun q q1 q2 => (jx_up_n _ _ (by omega)).trans ((jx_up_n _ _ (by omega)).trans (jx_up_n _ _ (by omega)))))
  · subst hx
    refine jx_callV4 d_K_row_147 mv_K_181 w1 rfl (jx_ok_rm (by omega) (Nat.le_of_ble_eq_true rfl)) (Nat.le_of_ble_eq_true rfl) (jx_rmc (by omega)) (jx_rms (by omega)) (c_K_turn5 (d := 4) (by omega) hnA w1 w8 w4 w5 ?_)
    dsimp only [Option.toList, List.cons_append, List.nil_append]
    refine jx_iload d_K_row_150 rfl ?_
    refine jx_q2 ?_
    exact jx_iret d_K_row_152 rfl (by omega) (by omega) (k5 rfl _ (hW.set ((jx_up_n _ _ (by omega)).trans ((jx_up_n _ _ (by omega)).trans (jx_up_s _ _ _))) ((jx_up_n _ _ (by omega)).trans ((jx_up_n _ _ (by omega)).trans ((jx_up_n _ _ (by omega)).trans w2))) ((jx_up_n _ _ (by omega)).trans ((jx_up_n _ _ (by omega)).trans ((jx_up_n _ _ (by omega)).trans w3))) ((jx_up_n _ _ (by omega)).trans (jx_up_s _ _ _)) (jx_up_s _ _ _) ((jx_up_n _ _ (by omega)).trans ((jx_up_n _ _ (by omega)).trans ((jx_up_n _ _ (by omega)).trans w6))) ((jx_up_n _ _ (by omega)).trans ((jx_up_n _ _ (by omega)).trans ((jx_up_n _ _ (by omega)).trans w7))) (fun q hq => (jx_up_n _ _ (by omega)).trans ((jx_up_n _ _ (by omega)).trans (jx_up_n _ _ (by omega))))) (fun q q1 q2 => (jx_up_n _ _ (by omega)).trans ((jx_up_n _ _ (by omega)).trans (jx_up_n _ _ (by omega)))))
  · subst hx
    refine jx_callV4 d_K_row_147 mv_K_181 w1 rfl (jx_ok_rm (by omega) (Nat.le_of_ble_eq_true rfl)) (Nat.le_of_ble_eq_true rfl) (jx_rmc (by omega)) (jx_rms (by omega)) (c_K_turn6 (d := 0) w1 ?_)
    dsimp only [Option.toList, List.cons_append, List.nil_append]
    refine jx_iload d_K_row_150 rfl ?_
    refine jx_q2 ?_
    exact jx_iret d_K_row_152 rfl (by omega) (by omega) (k6 rfl _ (hW.set (jx_up_s _ _ _) ((jx_up_n _ _ (by omega)).trans w2) ((jx_up_n _ _ (by omega)).trans w3) ((jx_up_n _ _ (by omega)).trans w4) ((jx_up_n _ _ (by omega)).trans w5) ((jx_up_n _ _ (by omega)).trans w6) ((jx_up_n _ _ (by omega)).trans w7) (fun q hq => (jx_up_n _ _ (by omega)))) (fun q q1 q2 => (jx_up_n _ _ (by omega))))
/-- take, then the rest: the key's place j, whether it is new -/
def sp_nk (r : Option Nat) (nK : Nat) : Nat := match r with
  | some _ => nK
  | none => nK + 1
def sp_nn (r : Option Nat) (nK : Nat) (nm : Nat → Int64) (key : Int64) : Nat → Int64 := match r with
  | some _ => nm
  | none => va_up nm nK key
def sp_nd (r : Option Nat) (nK : Nat) (kd : Nat → sp_key) (fd : sp_fd) (nF : Nat) (t v : Int64) : Nat → sp_key := match r with
  | some j => va_up kd j (sp_tq fd nF t v (kd j))
  | none => va_up kd nK (sp_tq fd nF t v (sp_k0 fd nF))
theorem v_K_row4 {P T A g n : Nat} {thr : Int64} {r : Option Nat} (hd : 7 < d) (hls : lo ≤ sz) (ht : t = lN n) (hn : n ≤ 2 ^ 40) (hA : la = nI A) (hA1 : A ≤ 100000) (hP : pe = nI P) (hP1 : P ≤ 100000) (hg : sp_gt gt g) (hg1 : g ≤ 2 ^ 40) (hlt0 : lt = lN T) (hT : T ≤ (g - A) / P * P) (hnO : nO < 2 ^ 27) (hW : kW G M a lo far kar la wi en pe lr fr gt lt tk lc db fc le nF fo fd fw nK ko nm kd nS sn nA ac nO oc) (hr : sp_ix (fun j => nm j == key) nK = r) (hroom : sp_rf r nK (fun j => (kd j).1) = true) (hthr : thr = lN (max g n) - la.toInt64 - wi.toInt64)
    (k : ∀ M' sz' kar' ko', kW G M' a lo far kar' la wi en pe lr fr (lN (max g n)) (lN (sp_tT (max g n) A P T)) (tk + 1) lc db fc (sp_ll wi thr (sp_nk r nK) (sp_nd r nK kd fd nF t v) le) nF fo fd fw (sp_nk r nK) ko' (sp_nn r nK nm key) (sp_lk fd nF wi thr (sp_nk r nK) (sp_nd r nK kd fd nF t v)) nS sn nA ac ((sp_to nF fd (sp_nn r nK nm key) (sp_lk fd nF wi thr (sp_nk r nK) (sp_nd r nK kd fd nF t v)) (sp_nk r nK) (max g n) A P T (nO, oc)).1) ((sp_to nF fd (sp_nn r nK nm key) (sp_lk fd nF wi thr (sp_nk r nK) (sp_nd r nK kd fd nF t v)) (sp_nk r nK) (max g n) A P T (nO, oc)).2) → (∀ q, a + 9 ≤ q → q < a + 24 → M' q = M q) → sz ≤ sz' → Z (some (.int 0)) M' sz') :
    jx_V md_K_row [] G (jx_rm d 5 178) (jx_Q2 G 5 178 Z ZX) 121 [some (.ref a), some (.long key), none, some (.long t), none, some (.long v), none, some (.int 0)] [] M sz 0 0 := by
  obtain ⟨w1, w2, w3, w4, w5, w6, w7, w8, w9⟩ := id hW
  have hlo := w8.2.2.1
  have hgt : (if t < gt then gt else t) = lN (max g n) := by rw [ht]; exact sp_gt_max hg hg1 hn
  have hT' : T ≤ (max g n - A) / P * P := Nat.le_trans hT (Nat.mul_le_mul_right _ (Nat.div_le_div_right (by omega)))
  subst hthr
  refine jx_aload_n (i := 0) d_K_row_121 rfl rfl ?_
  refine jx_lload_n (i := 1) d_K_row_122 rfl rfl ?_
  refine jx_lload_n (i := 3) d_K_row_123 rfl rfl ?_
  refine jx_lload d_K_row_124 rfl ?_
  cases r with
  | some j =>
    have h60 : (kd j).1 < 60 := by simpa [sp_rf] using hroom
    refine jx_callV3 d_K_row_126 mv_K_171 w1 rfl (jx_ok_rm (by omega) (Nat.le_of_ble_eq_true rfl)) (Nat.le_of_ble_eq_true rfl) (jx_rmc (by omega)) (jx_rms (by omega)) (c_K_take_old (d := 7) (by omega) hr h60 w1 w8 w9 ?_)
    dsimp only [Option.toList, List.cons_append, List.nil_append]
    intro M1 h1 h2 h3
    rw [hgt] at h1
    try dsimp only [Option.toList, List.cons_append, List.nil_append]
    refine v_K_row2 (gt := lN (max g n)) (g := max g n) (A := A) (P := P) (T := T) hd (by omega) (by omega) hA hA1 hP hP1 rfl (by omega) hlt0 hT' hnO (kd := va_up kd j (sp_tq fd nF t v (kd j))) ⟨h1, ?_, ?_, ?_, ?_, ?_, ?_, w8.to (fun q hq => h3 q (by omega) (by omega)), h2⟩ (fun M2 hW2 hf2 => k M2 sz kar ko hW2 (fun q q1 q2 => (hf2 q q1 q2).trans (h3 q (by omega) (by omega))) (Nat.le_refl _))
    · rw [h3 _ (by omega) (by omega)]; exact w2
    · rw [h3 _ (by omega) (by omega)]; exact w3
    · rw [h3 _ (by omega) (by omega)]; exact w4
    · rw [h3 _ (by omega) (by omega)]; exact w5
    · rw [h3 _ (by omega) (by omega)]; exact w6
    · rw [h3 _ (by omega) (by omega)]; exact w7
  | none =>
    have h30 : nK < 30 := by simpa [sp_rf] using hroom
    refine jx_callV3 d_K_row_126 mv_K_171 w1 rfl (jx_ok_rm (by omega) (Nat.le_of_ble_eq_true rfl)) (Nat.le_of_ble_eq_true rfl) (jx_rmc (by omega)) (jx_rms (by omega)) (c_K_take_new (d := 7) (by omega) hr h30 hls w1 w8 w9 ?_)
    dsimp only [Option.toList, List.cons_append, List.nil_append]
    intro M1 sz1 kar1 h1 h2 h3 hs1
    rw [hgt] at h1
    try dsimp only [Option.toList, List.cons_append, List.nil_append]
    refine v_K_row2 (gt := lN (max g n)) (g := max g n) (A := A) (P := P) (T := T) hd (by omega) (by omega) hA hA1 hP hP1 rfl (by omega) hlt0 hT' hnO (kd := va_up kd nK (sp_tq fd nF t v (sp_k0 fd nF))) ⟨h1, ?_, ?_, ?_, ?_, ?_, ?_, w8.to (fun q hq => h3 q (by omega) (by omega) (by omega)), h2⟩ (fun M2 hW2 hf2 => k M2 sz1 kar1 _ hW2 (fun q q1 q2 => (hf2 q q1 q2).trans (h3 q (by omega) (by omega) (by omega))) hs1)
    · rw [h3 _ (by omega) (by omega) (by omega)]; exact w2
    · rw [h3 _ (by omega) (by omega) (by omega)]; exact w3
    · rw [h3 _ (by omega) (by omega) (by omega)]; exact w4
    · rw [h3 _ (by omega) (by omega) (by omega)]; exact w5
    · rw [h3 _ (by omega) (by omega) (by omega)]; exact w6
    · rw [h3 _ (by omega) (by omega) (by omega)]; exact w7
end CP6
