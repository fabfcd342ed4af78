/-! PART 34: KeyedFolds: row, whole -/
theorem sp_co_in (late : Bool) (lr fr : Int32) (dbl : Bool) (cause : Option Nat) : sp_co late lr fr dbl cause = 0 ∨ sp_co late lr fr dbl cause = 1 ∨ sp_co late lr fr dbl cause = 2 ∨ sp_co late lr fr dbl cause = 3 ∨ sp_co late lr fr dbl cause = 4 ∨ sp_co late lr fr dbl cause = 5 ∨ sp_co late lr fr dbl cause = 6 := by
  unfold sp_co
  repeat' split
  all_goals simp
abbrev sp_cC (gt : Int64) (la lr fr en : Int32) (nK : Nat) (nm : Nat → Int64) (kd : Nat → sp_key) (fd : sp_fd) (fw : Nat → Nat → Int64) (nF : Nat) (key t v : Int64) : Int32 := sp_co (sp_lt gt la t) lr fr (sp_db nK nm kd key t v en) (sp_ix (sp_ff fd fw v) nF)
/-- the row may be looked at: its time, a fold, the key is not stopped -/
def sp_ok (nF nS : Nat) (sn : Nat → Int64) (key : Int64) : Prop := nF ≠ 0 ∧ sp_ix (fun j => sn j == key) nS = none
section CP7
variable {G : jx_G} {d a lo far kar nF nK sz nS nA nO : Nat} {la wi en pe lr fr tk lc db fc le : Int32} {gt lt t v key : Int64} {fo ko : Nat → Nat} {nm : Nat → Int64} {kd : Nat → sp_key} {fd : sp_fd} {fw : Nat → Nat → Int64} {sn ac oc : Nat → Int64} {M : jx_H} {Z : Option Value → jx_H → Nat → Prop} {ZX : String → jx_H → Nat → Prop}
theorem c_K_row {P T A g : Nat} (hd : 7 < d) (hls : lo ≤ sz) (hA : la = nI A) (hA1 : A ≤ 100000) (hP : pe = nI P) (hP1 : P ≤ 100000) (hg : sp_gt gt g) (hg1 : g ≤ 2 ^ 40) (hlt0 : lt = lN T) (hT : T ≤ (g - A) / P * P) (hnO : nO < 2 ^ 27) (hnS : nS < 512) (hnA : nA < 2 ^ 29) (hW : kW G M a lo far kar la wi en pe lr fr gt lt tk lc db fc le nF fo fd fw nK ko nm kd nS sn nA ac nO oc)
    (kx1 : ¬ (¬ t < 0 ∧ t ≤ 1099511627776) → ∀ sz', sz ≤ sz' → ZX xIA M sz')
    (kx2 : (¬ t < 0 ∧ t ≤ 1099511627776) → ¬ sp_ok nF nS sn key → ∀ sz', sz ≤ sz' → ZX xIS M sz')
    (kx3 : ∀ n, t = lN n → n ≤ 2 ^ 40 → sp_ok nF nS sn key → sp_cC gt la lr fr en nK nm kd fd fw nF key t v = 0 → sp_rf (sp_ix (fun j => nm j == key) nK) nK (fun j => (kd j).1) = false → ∀ sz', sz ≤ sz' → ZX xIS M sz')
    (k0 : ∀ n r thr, t = lN n → n ≤ 2 ^ 40 → sp_ok nF nS sn key → sp_cC gt la lr fr en nK nm kd fd fw nF key t v = 0 → sp_ix (fun j => nm j == key) nK = r → sp_rf r nK (fun j => (kd j).1) = true → thr = lN (max g n) - la.toInt64 - wi.toInt64 → ∀ M' sz' kar' ko', kW G M' a lo far kar' la wi en pe lr fr (lN (max g n)) (lN (sp_tT (max g n) A P T)) (tk + 1) (lc + kf_b (sp_lt gt la t)) db fc (sp_ll wi thr (sp_nk r nK) (sp_nd r nK kd fd nF t v) le) nF fo fd fw (sp_nk r nK) ko' (sp_nn r nK nm key) (sp_lk fd nF wi thr (sp_nk r nK) (sp_nd r nK kd fd nF t v)) nS sn nA ac ((sp_to nF fd (sp_nn r nK nm key) (sp_lk fd nF wi thr (sp_nk r nK) (sp_nd r nK kd fd nF t v)) (sp_nk r nK) (max g n) A P T (nO, oc)).1) ((sp_to nF fd (sp_nn r nK nm key) (sp_lk fd nF wi thr (sp_nk r nK) (sp_nd r nK kd fd nF t v)) (sp_nk r nK) (max g n) A P T (nO, oc)).2) → (∀ q, a + 9 ≤ q → q < a + 24 → M' q = M q) → sz ≤ sz' → Z (some (.int 0)) M' sz')
    (k1 : ∀ n, t = lN n → n ≤ 2 ^ 40 → sp_ok nF nS sn key → sp_cC gt la lr fr en nK nm kd fd fw nF key t v = 1 → ∀ M', kW G M' a lo far kar la wi en pe lr fr gt lt tk (lc + kf_b (sp_lt gt la t)) db fc le nF fo fd fw nK ko nm kd nS sn nA ac nO oc → (∀ q, a + 9 ≤ q → q < a + 24 → M' q = M q) → Z (some (.int 1)) M' sz)
    (k2 : ∀ n, t = lN n → n ≤ 2 ^ 40 → sp_ok nF nS sn key → sp_cC gt la lr fr en nK nm kd fd fw nF key t v = 2 → ∀ M', kW G M' a lo far kar la wi en pe lr fr gt lt tk (lc + kf_b (sp_lt gt la t)) db fc le nF fo fd fw nK ko nm kd nS sn (nA + 1) (sp_pa ac nA key t v (-1)) nO oc → (∀ q, a + 9 ≤ q → q < a + 24 → M' q = M q) → Z (some (.int 2)) M' sz)
    (k3 : ∀ n, t = lN n → n ≤ 2 ^ 40 → sp_ok nF nS sn key → sp_cC gt la lr fr en nK nm kd fd fw nF key t v = 3 → ∀ M', kW G M' a lo far kar la wi en pe lr fr gt lt tk (lc + kf_b (sp_lt gt la t)) (db + 1) fc le nF fo fd fw nK ko nm kd nS sn nA ac nO oc → (∀ q, a + 9 ≤ q → q < a + 24 → M' q = M q) → Z (some (.int 3)) M' sz)
    (k4 : ∀ n, t = lN n → n ≤ 2 ^ 40 → sp_ok nF nS sn key → sp_cC gt la lr fr en nK nm kd fd fw nF key t v = 4 → ∀ M', kW G M' a lo far kar la wi en pe lr fr gt lt tk (lc + kf_b (sp_lt gt la t)) db (fc + 1) le nF fo fd fw nK ko nm kd (nS + 1) (vp_updL sn nS key) nA ac nO oc → (∀ q, a + 9 ≤ q → q < a + 24 → M' q = M q) → Z (some (.int 4)) M' sz)
    (k5 : ∀ n, t = lN n → n ≤ 2 ^ 40 → sp_ok nF nS sn key → sp_cC gt la lr fr en nK nm kd fd fw nF key t v = 5 → ∀ M', kW G M' a lo far kar la wi en pe lr fr gt lt tk (lc + kf_b (sp_lt gt la t)) db (fc + 1) le nF fo fd fw nK ko nm kd nS sn (nA + 1) (sp_pa ac nA key t v (kf_ix (sp_ix (sp_ff fd fw v) nF)).toInt64) nO oc → (∀ q, a + 9 ≤ q → q < a + 24 → M' q = M q) → Z (some (.int 5)) M' sz)
    (k6 : ∀ n, t = lN n → n ≤ 2 ^ 40 → sp_ok nF nS sn key → sp_cC gt la lr fr en nK nm kd fd fw nF key t v = 6 → ∀ M', kW G M' a lo far kar la wi en pe lr fr gt lt tk (lc + kf_b (sp_lt gt la t)) db (fc + 1) le nF fo fd fw nK ko nm kd nS sn nA ac nO oc → (∀ q, a + 9 ≤ q → q < a + 24 → M' q = M q) → Z (some (.int 6)) M' sz) :
    jx_Cx md_K_row G d [.ref a, .long key, .long t, .long v] M sz 5 178 Z ZX := by
  refine jx_entx rfl (Nat.le_of_ble_eq_true rfl) (l := [some (.ref a), some (.long key), none, some (.long t), none, some (.long v), none, none]) (by simp [jx_le, jx_eas, Value.category]) (fun hlt => ?_)
  obtain ⟨w1, w2, w3, w4, w5, w6, w7, w8, w9⟩ := id hW
  have hlo := w8.2.2.1
  have hnF := w8.1.2.1
  obtain ⟨mo, hAF⟩ := w8.1.1.1
  refine jx_lload_n (i := 3) d_K_row_0 rfl rfl ?_
  refine jx_lconst (v := 0) d_K_row_1 (by decide) ?_
  refine jx_l_lt (tgt := 14) d_K_row_2 d_K_row_3 (by decide) (fun c2 => ?_) (fun c2 => ?_)
  · exact jx_throw tl_IA ts_150 d_K_row_14 d_K_row_17 d_K_row_18 d_K_row_20 d_K_row_23 (by omega) (by omega) (by omega) (kx1 (fun h => h.1 c2))
  · refine jx_lload_n (i := 3) d_K_row_6 rfl rfl ?_
    refine jx_ldc2 d_K_row_7 rfl nv_K_148 ?_
    refine jx_l_le (tgt := 24) d_K_row_10 d_K_row_11 (by decide) (fun c10 => ?_) (fun c10 => ?_)
    · have hti : ¬ t < 0 ∧ t ≤ 1099511627776 := ⟨c2, c10⟩
      obtain ⟨n, hn63, htn⟩ := pk_lOf c2
      have hn : n ≤ 2 ^ 40 := by
        rw [htn, Int64.le_iff_toInt_le, pk_lT hn63, show (1099511627776 : Int64).toInt = 1099511627776 by decide] at c10
        omega
      refine jx_aload_n (i := 0) d_K_row_24 rfl rfl ?_
      refine jx_getf d_K_row_25 gf_K_10 w1 rfl ?_
      refine jx_callV0 d_K_row_28 mv_K_101 hAF rfl (jx_ok_rm (by omega) (Nat.le_of_ble_eq_true rfl)) (Nat.le_of_ble_eq_true rfl) (jx_rmc (by omega)) (jx_rms (by omega)) (c_A_isEmpty (d := 0) (by omega) hAF ?_)
      dsimp only [Option.toList, List.cons_append, List.nil_append]
      refine jx_if_eq (tgt := 44) d_K_row_31 (by decide) (fun c31 => ?_) (fun c31 => ?_)
      · have hF0 : nF ≠ 0 := of_decide_eq_false (kf_b_ne c31)
        refine jx_aload_n (i := 0) d_K_row_44 rfl rfl ?_
        refine jx_getf d_K_row_45 gf_K_22 w1 rfl ?_
        refine jx_lload_n (i := 1) d_K_row_48 rfl rfl ?_
        refine jx_callV1 d_K_row_49 mv_K_154 w2 rfl (jx_ok_rm (by omega) (Nat.le_of_ble_eq_true rfl)) (Nat.le_of_ble_eq_true rfl) (jx_rmc (by omega)) (jx_rms (by omega)) (c_S_has (d := 1) (by omega) (by omega) w2 w3 ?_)
        dsimp only [Option.toList, List.cons_append, List.nil_append]
        refine jx_if_eq (tgt := 65) d_K_row_52 (by decide) (fun c52 => ?_) (fun c52 => ?_)
        · have hst : sp_ix (fun j => sn j == key) nS = none := by simpa using kf_b_ne c52
          have hok : sp_ok nF nS sn key := ⟨hF0, hst⟩
          refine jx_aload_n (i := 0) d_K_row_65 rfl rfl ?_
          refine jx_lload_n (i := 1) d_K_row_66 rfl rfl ?_
          refine jx_lload_n (i := 3) d_K_row_67 rfl rfl ?_
          refine jx_lload d_K_row_68 rfl ?_
          refine jx_callV3 d_K_row_70 mv_K_159 w1 rfl (jx_ok_rm (by omega) (Nat.le_of_ble_eq_true rfl)) (Nat.le_of_ble_eq_true rfl) (jx_rmc (by omega)) (jx_rms (by omega)) (c_K_codeOf (d := 4) (by omega) w1 w8 w9 ?_)
          dsimp only [Option.toList, List.cons_append, List.nil_append]
          generalize hco : sp_co (sp_lt gt la t) lr fr (sp_db nK nm kd key t v en) (sp_ix (sp_ff fd fw v) nF) = co
          have rest : (co = 0 → sp_rf (sp_ix (fun j => nm j == key) nK) nK (fun j => (kd j).1) = true) → ∀ M1, kW G M1 a lo far kar la wi en pe lr fr gt lt tk (lc + kf_b (sp_lt gt la t)) db fc le nF fo fd fw nK ko nm kd nS sn nA ac nO oc → (∀ q, a + 9 ≤ q → q < a + 24 → M1 q = M q) → jx_V md_K_row [] G (jx_rm d 5 178) (jx_Q2 G 5 178 Z ZX) 116 [some (.ref a), some (.long key), none, some (.long t), none, some (.long v), none, some (.int co)] [] M1 sz 0 0 := by
            intro hroom M1 hW1 hf1
            refine jx_iload d_K_row_116 rfl ?_
            refine jx_if_ne (tgt := 140) d_K_row_118 (by decide) (fun c118 => ?_) (fun c118 => ?_)
            · refine v_K_row3 hd (by omega) (by omega) hnS hnA hW1 ?_ ?_ ?_ ?_ ?_ ?_ ?_
              · have := sp_co_in (sp_lt gt la t) lr fr (sp_db nK nm kd key t v en) (sp_ix (sp_ff fd fw v) nF)
                rw [hco] at this
                exact this.resolve_left c118
              · intro hx
                exact k1 n htn hn hok (hco.trans hx) M1 hW1 hf1
              · intro hx M2 hW2 hf2
                exact k2 n htn hn hok (hco.trans hx) M2 hW2 (fun q q1 q2 => (hf2 q q1 q2).trans (hf1 q q1 q2))
              · intro hx M2 hW2 hf2
                exact k3 n htn hn hok (hco.trans hx) M2 hW2 (fun q q1 q2 => (hf2 q q1 q2).trans (hf1 q q1 q2))
              · intro hx M2 hW2 hf2
                exact k4 n htn hn hok (hco.trans hx) M2 hW2 (fun q q1 q2 => (hf2 q q1 q2).trans (hf1 q q1 q2))
              · intro hx M2 hW2 hf2
                exact k5 n htn hn hok (hco.trans hx) M2 hW2 (fun q q1 q2 => (hf2 q q1 q2).trans (hf1 q q1 q2))
              · intro hx M2 hW2 hf2
                exact k6 n htn hn hok (hco.trans hx) M2 hW2 (fun q q1 q2 => (hf2 q q1 q2).trans (hf1 q q1 q2))
            · subst c118
              refine v_K_row4 (n := n) (g := g) (A := A) (P := P) (T := T) hd hls htn hn hA hA1 hP hP1 hg hg1 hlt0 hT hnO hW1 rfl (hroom rfl) rfl ?_
              intro M2 sz2 kar2 ko2 hW2 hf2 hs2
              exact k0 n _ _ htn hn hok hco rfl (hroom rfl) rfl M2 sz2 kar2 ko2 hW2 (fun q q1 q2 => (hf2 q q1 q2).trans (hf1 q q1 q2)) hs2
          have late : (co = 0 → sp_rf (sp_ix (fun j => nm j == key) nK) nK (fun j => (kd j).1) = true) → jx_V md_K_row [] G (jx_rm d 5 178) (jx_Q2 G 5 178 Z ZX) 98 [some (.ref a), some (.long key), none, some (.long t), none, some (.long v), none, some (.int co)] [] M sz 0 0 := by
            intro hroom
            refine jx_aload_n (i := 0) d_K_row_98 rfl rfl ?_
            refine jx_lload_n (i := 3) d_K_row_99 rfl rfl ?_
            refine jx_callV1 d_K_row_100 mv_K_168 w1 rfl (jx_ok_rm (by omega) (Nat.le_of_ble_eq_true rfl)) (Nat.le_of_ble_eq_true rfl) (jx_rmc (by omega)) (jx_rms (by omega)) (c_K_isLate (d := 1) (by omega) w1 ?_)
            dsimp only [Option.toList, List.cons_append, List.nil_append]
            refine jx_if_eq (tgt := 116) d_K_row_103 (by decide) (fun c103 => ?_) (fun c103 => ?_)
            · refine rest hroom M ?_ (fun q _ _ => rfl)
              rw [c103, Int32.add_zero]
              exact hW
            · refine jx_aload_n (i := 0) d_K_row_106 rfl rfl ?_
              refine jx_dup d_K_row_107 rfl ?_
              refine jx_getf d_K_row_108 gf_K_57 w1 rfl ?_
              refine jx_iconst (v := 1) d_K_row_111 (by decide) ?_
              refine jx_iadd d_K_row_112 ?_
              refine jx_putf d_K_row_113 pf_K_57 w1 (Nat.le_of_ble_eq_true rfl) rfl rfl ?_
              refine rest hroom _ ?_ (fun q q1 q2 => jx_up_n _ _ (by omega))
              rw [kf_b_ne0 c103]
              exact hW.set (jx_up_s _ _ _) ((jx_up_n _ _ (by omega)).trans w2) ((jx_up_n _ _ (by omega)).trans w3) ((jx_up_n _ _ (by omega)).trans w4) ((jx_up_n _ _ (by omega)).trans w5) ((jx_up_n _ _ (by omega)).trans w6) ((jx_up_n _ _ (by omega)).trans w7) (fun q hq => (jx_up_n _ _ (by omega)))
          refine jx_istore d_K_row_73 (Nat.le_of_ble_eq_true rfl) (jx_e8_7 (by trivial)) ?_
          refine jx_iload d_K_row_75 rfl ?_
          refine jx_if_ne (tgt := 98) d_K_row_77 (by decide) (fun c77 => ?_) (fun c77 => ?_)
          · exact late (fun h => absurd h c77)
          · refine jx_aload_n (i := 0) d_K_row_80 rfl rfl ?_
            refine jx_lload_n (i := 1) d_K_row_81 rfl rfl ?_
            refine jx_callV1 d_K_row_82 mv_K_163 w1 rfl (jx_ok_rm (by omega) (Nat.le_of_ble_eq_true rfl)) (Nat.le_of_ble_eq_true rfl) (jx_rmc (by omega)) (jx_rms (by omega)) (c_K_hasRoomFor (d := 4) (by omega) w1 w9.kn ?_)
            dsimp only [Option.toList, List.cons_append, List.nil_append]
            refine jx_if_ne (tgt := 98) d_K_row_85 (by decide) (fun c85 => ?_) (fun c85 => ?_)
            · exact late (fun _ => kf_b_ne0 c85)
            · exact jx_throw tl_IS ts_166 d_K_row_88 d_K_row_91 d_K_row_92 d_K_row_94 d_K_row_97 (by omega) (by omega) (by omega) (kx3 n htn hn hok (hco.trans c77) (kf_b_ne c85))
        · exact jx_throw tl_IS ts_157 d_K_row_55 d_K_row_58 d_K_row_59 d_K_row_61 d_K_row_64 (by omega) (by omega) (by omega) (kx2 hti (fun h => by have := kf_b_ne0 c52; rw [h.2] at this; cases this))
      · exact jx_throw tl_IS ts_152 d_K_row_34 d_K_row_37 d_K_row_38 d_K_row_40 d_K_row_43 (by omega) (by omega) (by omega) (kx2 hti (fun h => h.1 (of_decide_eq_true (kf_b_ne0 c31))))
    · exact jx_throw tl_IA ts_150 d_K_row_14 d_K_row_17 d_K_row_18 d_K_row_20 d_K_row_23 (by omega) (by omega) (by omega) (kx1 (fun h => c10 h.2))
end CP7
