/-! PART 44: the reference: failsAt, joined -/
section CM8
variable {G : jx_G} {d b nF nK sz nS nA nO : Nat} {la wi en pe cd lr fr tk lc db fc le x x2 cs : Int32} {gt lt t v key s0 p0 : Int64} {nm : Nat → Int64} {kd : Nat → sp_key} {fd : sp_fd} {fw : Nat → Nat → Int64} {sn ac oc : Nat → Int64} {M : jx_H} {Z : Option Value → jx_H → Nat → Prop}
theorem c_M_failsAt (hd : 0 < d) (hN : mW M b la wi en pe cd lr fr gt lt tk lc db fc le nF fd fw nK nm kd nS sn nA ac nO oc)
    (k : ∀ f, f < nF → x = nI f → (fd f).2.2.2.1 < 4 → sp_ff fd fw v f = false → ∀ M', mW M' b la wi en pe 0 lr fr gt lt tk lc db fc le nF (va_up fd f ((fd f).1, (fd f).2.1, (fd f).2.2.1, (fd f).2.2.2.1 + 1, (fd f).2.2.2.2)) (va_up fw f (vp_updL (fw f) (fd f).2.2.2.1 v)) nK nm kd nS sn nA ac nO oc → mFr b M M' → Z (some (.int (nI ((fd f).2.2.2.1 + 1)))) M' sz)
    (k1 : ¬ (0 ≤ x.toInt ∧ x.toInt < nF) → ∀ M', mW M' b la wi en pe 1 lr fr gt lt tk lc db fc le nF fd fw nK nm kd nS sn nA ac nO oc → mFr b M M' → Z (some (.int 0)) M' sz) (k2 : ∀ f, f < nF → x = nI f → ¬ ((fd f).2.2.2.1 < 4 ∧ sp_ff fd fw v f = false) → ∀ M', mW M' b la wi en pe 2 lr fr gt lt tk lc db fc le nF fd fw nK nm kd nS sn nA ac nO oc → mFr b M M' → Z (some (.int 0)) M' sz) : jx_Cr md_M_failsAt G d [.ref b, .int x, .long v] M sz 0 0 Z := by
  refine jx_ent rfl (Nat.le_of_ble_eq_true rfl) (l := [some (.ref b), some (.int x), some (.long v), none]) (by simp [jx_le, jx_eas, Value.category]) (fun hlt => ?_)
  obtain ⟨mk, ki, st, nu, fa, fl, nn, si, wo, ti, va, so, hmk, hB, hO, hF, hK, hS5, hS⟩ := id hN
  obtain ⟨h1, h2, h3, h4, h5, h6, h7, h8, h9, h10, h11, h12, h13⟩ := id hO
  have hU : ∀ cd' : Int32, mW (jx_up M b (kf_M la wi en pe cd' nF b lr fr nK nS (kf_b (sp_wm gt)) mk lt nA nO tk lc db fc le)) b la wi en pe cd' lr fr gt lt tk lc db fc le nF fd fw nK nm kd nS sn nA ac nO oc := fun cd' => ⟨mk, ki, st, nu, fa, fl, nn, si, wo, ti, va, so, hmk, jx_up_s _ _ _, hO.to (fun q q1 q2 => jx_up_n _ _ (by omega)), hF, hK, hS5, hS⟩
  have hnF := hF.1
  refine jx_aload_n (i := 0) d_M_failsAt_0 rfl rfl ?_
  refine jx_aload_n (i := 0) d_M_failsAt_1 rfl rfl ?_
  refine jx_iload_n (i := 1) d_M_failsAt_2 rfl rfl ?_
  refine jx_callV1 d_M_failsAt_3 mv_M_83 hB rfl (jx_ok_rm (by omega) (Nat.le_of_ble_eq_true rfl)) (Nat.le_of_ble_eq_true rfl) (jx_rmc (by omega)) (jx_rms (by omega)) (c_M_isFold (d := 0) hN ?_)
  dsimp only [Option.toList, List.cons_append, List.nil_append]
  refine jx_if_ne (tgt := 13) d_M_failsAt_6 (by decide) (fun c6 => ?_) (fun c6 => ?_)
  · obtain ⟨f, hf, hxf⟩ := nI_ofI (of_decide_eq_true (kf_b_ne0 c6))
    subst hxf
    obtain ⟨f1, f2, f3, f4, f5, f6⟩ := hF.2.1 f hf
    have hfa : fa f = nI (fd f).2.2.2.1 := by rw [hF.2.2 f (by omega), if_pos hf]
    have bad : ¬ ((fd f).2.2.2.1 < 4 ∧ sp_ff fd fw v f = false) → jx_V md_M_failsAt [] G (jx_rm d 0 0) (jx_Q1 G 0 0 Z) 32 [some (.ref b), some (.int (nI f)), some (.long v), none] [.ref b] M sz 0 0 := by
      intro hn
      refine jx_iconst (v := 2) d_M_failsAt_32 (by decide) ?_
      refine jx_goto (tgt := 37) d_M_failsAt_33 (by decide) ?_
      refine jx_putf d_M_failsAt_37 pf_M_67 hB (Nat.le_of_ble_eq_true rfl) rfl rfl ?_
      refine jx_aload_n (i := 0) d_M_failsAt_40 rfl rfl ?_
      refine jx_getf d_M_failsAt_41 gf_M_67 (jx_up_s _ _ _) rfl ?_
      refine jx_if_le (tgt := 49) d_M_failsAt_44 (by decide) (fun c44 => ?_) (fun c44 => ?_)
      · exact absurd c44 (by decide)
      · refine jx_iconst (v := 0) d_M_failsAt_47 (by decide) ?_
        exact jx_iret d_M_failsAt_48 rfl (by omega) (by omega) (k2 f hf rfl hn _ (hU 2) (fun q hq => jx_up_n _ _ (by omega)))
    refine jx_aload_n (i := 0) d_M_failsAt_13 rfl rfl ?_
    refine jx_getf d_M_failsAt_14 gf_M_20 hB rfl ?_
    refine jx_iload_n (i := 1) d_M_failsAt_17 rfl rfl ?_
    refine jx_ialdj d_M_failsAt_18 h4 rfl (by omega) (by omega) ?_
    refine jx_iconst (v := 4) d_M_failsAt_19 (by decide) ?_
    refine jx_icmp_eq (tgt := 32) d_M_failsAt_20 (by decide) (fun c20 => ?_) (fun c20 => ?_)
    · rw [hfa] at c20
      have := (nI_eq (b := 4) (by omega) (by omega)).mp c20
      exact bad (fun h => by omega)
    · rw [hfa] at c20
      have hc4 : (fd f).2.2.2.1 < 4 := by
        have : (fd f).2.2.2.1 ≠ 4 := fun h => c20 (by rw [h]; rfl)
        omega
      refine jx_aload_n (i := 0) d_M_failsAt_23 rfl rfl ?_
      refine jx_iload_n (i := 1) d_M_failsAt_24 rfl rfl ?_
      refine jx_lload_n (i := 2) d_M_failsAt_25 rfl rfl ?_
      refine jx_callV2 d_M_failsAt_26 mv_M_87 hB rfl (jx_ok_rm (by omega) (Nat.le_of_ble_eq_true rfl)) (Nat.le_of_ble_eq_true rfl) (jx_rmc (by omega)) (jx_rms (by omega)) (c_M_failsAtIt (d := 0) hf hN ?_)
      dsimp only [Option.toList, List.cons_append, List.nil_append]
      refine jx_if_eq (tgt := 36) d_M_failsAt_29 (by decide) (fun c29 => ?_) (fun c29 => ?_)
      · refine jx_iconst (v := 0) d_M_failsAt_36 (by decide) ?_
        refine jx_putf d_M_failsAt_37 pf_M_67 hB (Nat.le_of_ble_eq_true rfl) rfl rfl ?_
        refine jx_aload_n (i := 0) d_M_failsAt_40 rfl rfl ?_
        refine jx_getf d_M_failsAt_41 gf_M_67 (jx_up_s _ _ _) rfl ?_
        refine jx_if_le (tgt := 49) d_M_failsAt_44 (by decide) (fun c44 => ?_) (fun c44 => ?_)
        · have hcn : (4 : Int32) * nI f + fa f = nI (4 * f + (fd f).2.2.2.1) := by rw [hfa, e4]
          refine jx_aload_n (i := 0) d_M_failsAt_49 rfl rfl ?_
          refine jx_getf d_M_failsAt_50 gf_M_23 (jx_up_s _ _ _) rfl ?_
          refine jx_iconst (v := 4) d_M_failsAt_53 (by decide) ?_
          refine jx_iload_n (i := 1) d_M_failsAt_54 rfl rfl ?_
          refine jx_imul d_M_failsAt_55 ?_
          refine jx_aload_n (i := 0) d_M_failsAt_56 rfl rfl ?_
          refine jx_getf d_M_failsAt_57 gf_M_20 (jx_up_s _ _ _) rfl ?_
          refine jx_iload_n (i := 1) d_M_failsAt_60 rfl rfl ?_
          refine jx_ialdj d_M_failsAt_61 ((jx_up_n _ _ (by omega)).trans h4) rfl (by omega) (by omega) ?_
          refine jx_iadd d_M_failsAt_62 ?_
          refine jx_lload_n (i := 2) d_M_failsAt_63 rfl rfl ?_
          refine jx_lastj d_M_failsAt_64 ((jx_up_n _ _ (by omega)).trans h5) hcn (by omega) (by omega) ?_
          refine jx_aload_n (i := 0) d_M_failsAt_65 rfl rfl ?_
          refine jx_getf d_M_failsAt_66 gf_M_20 ((jx_up_n _ _ (by omega)).trans (jx_up_s _ _ _)) rfl ?_
          refine jx_iload_n (i := 1) d_M_failsAt_69 rfl rfl ?_
          refine jx_dup2_11 d_M_failsAt_70 rfl rfl ?_
          refine jx_ialdj d_M_failsAt_71 ((jx_up_n _ _ (by omega)).trans ((jx_up_n _ _ (by omega)).trans h4)) rfl (show f < 6 by omega) (by omega) ?_
          refine jx_iconst (v := 1) d_M_failsAt_72 (by decide) ?_
          refine jx_iadd d_M_failsAt_73 ?_
          rw [hfa, nI_1]
          refine jx_iastj d_M_failsAt_74 ((jx_up_n _ _ (by omega)).trans ((jx_up_n _ _ (by omega)).trans h4)) rfl (show f < 6 by omega) (by omega) ?_
          refine jx_aload_n (i := 0) d_M_failsAt_75 rfl rfl ?_
          refine jx_getf d_M_failsAt_76 gf_M_20 ((jx_up_n _ _ (by omega)).trans ((jx_up_n _ _ (by omega)).trans (jx_up_s _ _ _))) rfl ?_
          refine jx_iload_n (i := 1) d_M_failsAt_79 rfl rfl ?_
          refine jx_ialdj d_M_failsAt_80 (jx_up_s _ _ _) rfl (show f < 6 by omega) (by omega) ?_
          rw [upd_s]
          refine jx_iret d_M_failsAt_81 rfl (by omega) (by omega) (k f hf rfl hc4 (kf_b_ne c29) _ ?_ (fun q hq => ?_))
          · refine ⟨mk, ki, st, nu, upd fa f (nI ((fd f).2.2.2.1 + 1)), vp_updL fl (4 * f + (fd f).2.2.2.1) v, nn, si, wo, ti, va, so, hmk, ?_, ⟨?_, ?_, ?_, ?_, ?_, ?_, ?_, ?_, ?_, ?_, ?_, ?_, ?_⟩, ⟨hnF, fun i hi => ?_, fun i hi => ?_⟩, hK, hS5, hS⟩
            · exact (jx_up_n _ _ (by omega)).trans ((jx_up_n _ _ (by omega)).trans (jx_up_s _ _ _))
            · rw [jx_up_n _ _ (by omega), jx_up_n _ _ (by omega), jx_up_n _ _ (by omega)]; exact h1
            · rw [jx_up_n _ _ (by omega), jx_up_n _ _ (by omega), jx_up_n _ _ (by omega)]; exact h2
            · rw [jx_up_n _ _ (by omega), jx_up_n _ _ (by omega), jx_up_n _ _ (by omega)]; exact h3
            · rw [jx_up_s]
            · rw [jx_up_n _ _ (by omega), jx_up_s]
            · rw [jx_up_n _ _ (by omega), jx_up_n _ _ (by omega), jx_up_n _ _ (by omega)]; exact h6
            · rw [jx_up_n _ _ (by omega), jx_up_n _ _ (by omega), jx_up_n _ _ (by omega)]; exact h7
            · rw [jx_up_n _ _ (by omega), jx_up_n _ _ (by omega), jx_up_n _ _ (by omega)]; exact h8
            · rw [jx_up_n _ _ (by omega), jx_up_n _ _ (by omega), jx_up_n _ _ (by omega)]; exact h9
            · rw [jx_up_n _ _ (by omega), jx_up_n _ _ (by omega), jx_up_n _ _ (by omega)]; exact h10
            · rw [jx_up_n _ _ (by omega), jx_up_n _ _ (by omega), jx_up_n _ _ (by omega)]; exact h11
            · rw [jx_up_n _ _ (by omega), jx_up_n _ _ (by omega), jx_up_n _ _ (by omega)]; exact h12
            · rw [jx_up_n _ _ (by omega), jx_up_n _ _ (by omega), jx_up_n _ _ (by omega)]; exact h13
            · by_cases hif : i = f
              · subst hif
                rw [va_up_s, va_up_s]
                refine ⟨f1, by show (fd i).2.2.2.1 + 1 ≤ 4; omega, f3, f4, f5, fun q hq => ?_⟩
                have hq' : q < (fd i).2.2.2.1 + 1 := hq
                by_cases hqc : q = (fd i).2.2.2.1
                · subst hqc
                  rw [updL_s, updL_s]
                · rw [updL_n _ _ (by omega), updL_n _ _ hqc]
                  exact f6 q (by omega)
              · rw [va_up_n _ _ hif, va_up_n _ _ hif]
                obtain ⟨g1, g2, g3, g4, g5, g6⟩ := hF.2.1 i hi
                refine ⟨g1, g2, g3, g4, g5, fun q hq => ?_⟩
                rw [updL_n _ _ (by omega)]
                exact g6 q hq
            · by_cases hif : i = f
              · subst hif
                rw [upd_s, if_pos hf, va_up_s]
              · rw [upd_n _ _ hif, va_up_n _ _ hif]
                exact hF.2.2 i hi
          · rw [jx_up_n _ _ (by omega), jx_up_n _ _ (by omega), jx_up_n _ _ (by omega)]
        · exact absurd (by decide) c44
      · exact bad (fun h => by rw [kf_b_ne0 c29] at h; cases h.2)
  · refine jx_iconst (v := 1) d_M_failsAt_9 (by decide) ?_
    refine jx_goto (tgt := 37) d_M_failsAt_10 (by decide) ?_
    refine jx_putf d_M_failsAt_37 pf_M_67 hB (Nat.le_of_ble_eq_true rfl) rfl rfl ?_
    refine jx_aload_n (i := 0) d_M_failsAt_40 rfl rfl ?_
    refine jx_getf d_M_failsAt_41 gf_M_67 (jx_up_s _ _ _) rfl ?_
    refine jx_if_le (tgt := 49) d_M_failsAt_44 (by decide) (fun c44 => ?_) (fun c44 => ?_)
    · exact absurd c44 (by decide)
    · refine jx_iconst (v := 0) d_M_failsAt_47 (by decide) ?_
      exact jx_iret d_M_failsAt_48 rfl (by omega) (by omega) (k1 (of_decide_eq_false (kf_b_ne c6)) _ (hU 1) (fun q hq => jx_up_n _ _ (by omega)))
theorem v_M_joined {f : Nat} (hd : 1 < d) (hf : f < nF) (hN : mW M b la wi en pe cd lr fr gt lt tk lc db fc le nF fd fw nK nm kd nS sn nA ac nO oc) (hk : Z (some (.int (kf_b (sp_jo (fd f).1 (fd f).2.1 (fd f).2.2.1 kd nK)))) M sz) : jx_V md_M_joined [] G (jx_rm d 0 0) (jx_Q1 G 0 0 Z) 26 [some (.ref b), some (.int (nI f)), none, none, none, none, none] [] M sz 0 0 := by
  obtain ⟨mk, ki, st, nu, fa, fl, nn, si, wo, ti, va, so, hmk, hB, hO, hF, hK, hS5, hS⟩ := id hN
  obtain ⟨h1, h2, h3, h4, h5, h6, h7, h8, h9, h10, h11, h12, h13⟩ := id hO
  have hnF := hF.1
  have hnK := hK.1
  obtain ⟨f1, f2, f3, f4, f5, f6⟩ := hF.2.1 f hf
  cases hmj : sp_mj (nI (fd f).1) with
  | false =>
    rw [sp_jo, hmj] at hk
    refine jx_iconst (v := 1) d_M_joined_26 (by decide) ?_
    refine jx_istore_n (i := 2) d_M_joined_27 rfl (Nat.le_of_ble_eq_true rfl) (jx_e7_2 (by trivial)) ?_
    refine jx_iconst (v := 0) d_M_joined_28 (by decide) ?_
    refine jx_istore_n (i := 3) d_M_joined_29 rfl (Nat.le_of_ble_eq_true rfl) (jx_e7_3 (by trivial)) ?_
    refine jx_iload_n (i := 3) d_M_joined_30 rfl rfl ?_
    refine jx_aload_n (i := 0) d_M_joined_31 rfl rfl ?_
    refine jx_getf d_M_joined_32 gf_M_74 hB rfl ?_
    refine jx_icmp_ge (tgt := 133) d_M_joined_35 (by decide) (fun c35 => ?_) (fun c35 => ?_)
    · refine jx_iload_n (i := 2) d_M_joined_133 rfl rfl ?_
      exact jx_zret d_M_joined_134 rfl (by first | exact Or.inl rfl | exact Or.inr rfl) (by omega) (by omega) hk
    · refine jx_aload_n (i := 0) d_M_joined_38 rfl rfl ?_
      refine jx_aload_n (i := 0) d_M_joined_39 rfl rfl ?_
      refine jx_getf d_M_joined_40 gf_M_7 hB rfl ?_
      refine jx_iload_n (i := 1) d_M_joined_43 rfl rfl ?_
      refine jx_ialdj d_M_joined_44 h1 rfl (by omega) (by omega) ?_
      rw [f3]
      refine jx_callV1 d_M_joined_45 mv_M_145 hB rfl (jx_ok_rm (by omega) (Nat.le_of_ble_eq_true rfl)) (Nat.le_of_ble_eq_true rfl) (jx_rmc (by omega)) (jx_rms (by omega)) (c_M_mayBeJoined (d := 0) f1 hB ?_)
      dsimp only [Option.toList, List.cons_append, List.nil_append]
      rw [hmj]
      refine jx_if_eq (tgt := 133) d_M_joined_48 (by decide) (fun c48 => ?_) (fun c48 => ?_)
      · refine jx_iload_n (i := 2) d_M_joined_133 rfl rfl ?_
        exact jx_zret d_M_joined_134 rfl (by first | exact Or.inl rfl | exact Or.inr rfl) (by omega) (by omega) hk
      · exact absurd rfl c48
  | true =>
    have loop : ∀ (r i : Nat), i + r = nK → jx_V md_M_joined [] G (jx_rm d 0 0) (jx_Q1 G 0 0 Z) 30 [some (.ref b), some (.int (nI f)), some (.int (kf_b (!sp_ex (fun j => !(sp_bw (fd f).1 (fd f).2.2.1 (kd j).2.2.1 (kd j).2.2.2.1 (kd j).1 (fd f).2.1 == sp_fb (fd f).1 (fd f).2.1 (fd f).2.2.1 (kd j).2.2.1 (kd j).2.2.2.1 1125899906842624 (kd j).1)) i))), some (.int (nI i)), none, none, none] [] M sz 0 0 := by
      intro r
      induction r with
      | zero =>
        intro i hi
        refine jx_iload_n (i := 3) d_M_joined_30 rfl rfl ?_
        refine jx_aload_n (i := 0) d_M_joined_31 rfl rfl ?_
        refine jx_getf d_M_joined_32 gf_M_74 hB rfl ?_
        refine jx_icmp_ge (tgt := 133) d_M_joined_35 (by decide) (fun c35 => ?_) (fun c35 => ?_)
        · refine jx_iload_n (i := 2) d_M_joined_133 rfl rfl ?_
          exact jx_zret d_M_joined_134 rfl (kf_b01 _) (by omega) (by omega) (by rw [sp_jo, hmj, show nK = i by omega] at hk; exact hk)
        · exact absurd ((nI_leI (by omega) (by omega)).mpr (by omega)) c35
      | succ r ih =>
        intro i hi
        have nx := ih (i + 1) (by omega)
        obtain ⟨g1, g2, g3, g4, g5⟩ := hK.2.1 i (by omega)
        have inner : ∀ (m : Nat) (s : Int64), m ≤ (kd i).1 → sp_bm (fd f).1 (fd f).2.2.1 (fun q => va (62 * i + q)) m s = sp_bw (fd f).1 (fd f).2.2.1 (kd i).2.2.1 (kd i).2.2.2.1 (kd i).1 (fd f).2.1 → jx_V md_M_joined [] G (jx_rm d 0 0) (jx_Q1 G 0 0 Z) 69 [some (.ref b), some (.int (nI f)), some (.int (kf_b (!sp_ex (fun j => !(sp_bw (fd f).1 (fd f).2.2.1 (kd j).2.2.1 (kd j).2.2.2.1 (kd j).1 (fd f).2.1 == sp_fb (fd f).1 (fd f).2.1 (fd f).2.2.1 (kd j).2.2.1 (kd j).2.2.2.1 1125899906842624 (kd j).1)) i))), some (.int (nI i)), some (.long s), none, some (.int (nI m - 1))] [] M sz 0 0 := by
          intro m
          induction m with
          | zero =>
            intro s hm hs
            have fin : ∀ bo : Bool, (sp_bw (fd f).1 (fd f).2.2.1 (kd i).2.2.1 (kd i).2.2.2.1 (kd i).1 (fd f).2.1 == sp_fb (fd f).1 (fd f).2.1 (fd f).2.2.1 (kd i).2.2.1 (kd i).2.2.2.1 1125899906842624 (kd i).1) = bo → jx_V md_M_joined [] G (jx_rm d 0 0) (jx_Q1 G 0 0 Z) 125 [some (.ref b), some (.int (nI f)), some (.int (kf_b (!sp_ex (fun j => !(sp_bw (fd f).1 (fd f).2.2.1 (kd j).2.2.1 (kd j).2.2.2.1 (kd j).1 (fd f).2.1 == sp_fb (fd f).1 (fd f).2.1 (fd f).2.2.1 (kd j).2.2.1 (kd j).2.2.2.1 1125899906842624 (kd j).1)) i))), some (.int (nI i)), some (.long s), none, some (.int (nI 0 - 1))] [.int (kf_b bo), .int (kf_b (!sp_ex (fun j => !(sp_bw (fd f).1 (fd f).2.2.1 (kd j).2.2.1 (kd j).2.2.2.1 (kd j).1 (fd f).2.1 == sp_fb (fd f).1 (fd f).2.1 (fd f).2.2.1 (kd j).2.2.1 (kd j).2.2.2.1 1125899906842624 (kd j).1)) i))] M sz 0 0 := by
              intro bo hbo
              refine jx_iand d_M_joined_125 ?_
              refine jx_istore_n (i := 2) d_M_joined_126 rfl (Nat.le_of_ble_eq_true rfl) (jx_e7_2 (by trivial)) ?_
              refine jx_iinc d_M_joined_127 rfl (Nat.le_of_ble_eq_true rfl) (jx_e7_3 (by trivial)) ?_
              refine jx_goto (tgt := 30) d_M_joined_130 (by decide) ?_
              rw [kf_b_and]
              refine jx_wk (l' := [some (.ref b), some (.int (nI f)), some (.int (kf_b (!sp_ex (fun j => !(sp_bw (fd f).1 (fd f).2.2.1 (kd j).2.2.1 (kd j).2.2.2.1 (kd j).1 (fd f).2.1 == sp_fb (fd f).1 (fd f).2.1 (fd f).2.2.1 (kd j).2.2.1 (kd j).2.2.2.1 1125899906842624 (kd j).1)) (i + 1)))), some (.int (nI (i + 1))), none, none, none]) ?_ nx
              simp [jx_le, nI_1, sp_ex, ← hbo]
            have hs' : s = sp_bw (fd f).1 (fd f).2.2.1 (kd i).2.2.1 (kd i).2.2.2.1 (kd i).1 (fd f).2.1 := hs
            refine jx_iload d_M_joined_69 rfl ?_
            refine jx_if_lt (tgt := 104) d_M_joined_71 (by decide) (fun c71 => ?_) (fun c71 => ?_)
            · refine jx_iload_n (i := 2) d_M_joined_104 rfl rfl ?_
              refine jx_lload d_M_joined_105 rfl ?_
              refine jx_aload_n (i := 0) d_M_joined_107 rfl rfl ?_
              refine jx_iload_n (i := 3) d_M_joined_108 rfl rfl ?_
              refine jx_iload_n (i := 1) d_M_joined_109 rfl rfl ?_
              refine jx_ldc2 d_M_joined_110 rfl nv_M_177 ?_
              refine jx_callV3 d_M_joined_113 mv_M_173 hB rfl (jx_ok_rm (by omega) (Nat.le_of_ble_eq_true rfl)) (Nat.le_of_ble_eq_true rfl) (jx_rmc (by omega)) (jx_rms (by omega)) (c_M_foldOf (d := 1) (by omega) (show i < nK by omega) hf hN ?_)
              dsimp only [Option.toList, List.cons_append, List.nil_append]
              refine jx_l_ne (tgt := 124) d_M_joined_116 d_M_joined_117 (by decide) (fun c116 => ?_) (fun c116 => ?_)
              · refine jx_iconst (v := 0) d_M_joined_124 (by decide) ?_
                exact fin false (by rw [← hs']; simpa using c116)
              · refine jx_iconst (v := 1) d_M_joined_120 (by decide) ?_
                refine jx_goto (tgt := 125) d_M_joined_121 (by decide) ?_
                exact fin true (by rw [← hs']; simpa using c116)
            · exact absurd (by decide) c71
          | succ m ihm =>
            intro s hm hs
            rw [nI_pred]
            refine jx_iload d_M_joined_69 rfl ?_
            refine jx_if_lt (tgt := 104) d_M_joined_71 (by decide) (fun c71 => ?_) (fun c71 => ?_)
            · exact absurd c71 (nI_pos (by omega))
            · refine jx_aload_n (i := 0) d_M_joined_74 rfl rfl ?_
              refine jx_iload_n (i := 1) d_M_joined_75 rfl rfl ?_
              refine jx_lload d_M_joined_76 rfl ?_
              refine jx_lconst (v := 0) d_M_joined_78 (by decide) ?_
              refine jx_aload_n (i := 0) d_M_joined_79 rfl rfl ?_
              refine jx_getf d_M_joined_80 gf_M_38 hB rfl ?_
              refine jx_bipush (v := 62) d_M_joined_83 (by decide) ?_
              refine jx_iload_n (i := 3) d_M_joined_85 rfl rfl ?_
              refine jx_imul d_M_joined_86 ?_
              refine jx_iload d_M_joined_87 rfl ?_
              refine jx_iadd d_M_joined_89 ?_
              refine jx_laldj d_M_joined_90 h10 (e62 _ _) (by omega) (by omega) ?_
              refine jx_iconst (v := 0) d_M_joined_91 (by decide) ?_
              refine jx_lconst (v := 0) d_M_joined_92 (by decide) ?_
              rw [show (0 : Int32) = kf_b false from rfl]
              refine jx_callV6 d_M_joined_93 mv_M_97 hB rfl (jx_ok_rm (by omega) (Nat.le_of_ble_eq_true rfl)) (Nat.le_of_ble_eq_true rfl) (jx_rmc (by omega)) (jx_rms (by omega)) (c_M_step (d := 0) hf hN ?_)
              dsimp only [Option.toList, List.cons_append, List.nil_append]
              refine jx_lstore d_M_joined_96 (Nat.le_of_ble_eq_true rfl) (jx_f7_4 (by trivial)) ?_
              refine jx_iincM d_M_joined_98 rfl (Nat.le_of_ble_eq_true rfl) (jx_e7_6 (by trivial)) ?_
              refine jx_goto (tgt := 69) d_M_joined_101 (by decide) ?_
              rw [show nI m + -1 = nI m - 1 from (Int32.sub_eq_add_neg _ _).symm]
              exact ihm _ (by omega) hs
        refine jx_iload_n (i := 3) d_M_joined_30 rfl rfl ?_
        refine jx_aload_n (i := 0) d_M_joined_31 rfl rfl ?_
        refine jx_getf d_M_joined_32 gf_M_74 hB rfl ?_
        refine jx_icmp_ge (tgt := 133) d_M_joined_35 (by decide) (fun c35 => ?_) (fun c35 => ?_)
        · exact absurd ((nI_leI (by omega) (by omega)).mp c35) (by omega)
        · refine jx_aload_n (i := 0) d_M_joined_38 rfl rfl ?_
          refine jx_aload_n (i := 0) d_M_joined_39 rfl rfl ?_
          refine jx_getf d_M_joined_40 gf_M_7 hB rfl ?_
          refine jx_iload_n (i := 1) d_M_joined_43 rfl rfl ?_
          refine jx_ialdj d_M_joined_44 h1 rfl (by omega) (by omega) ?_
          rw [f3]
          refine jx_callV1 d_M_joined_45 mv_M_145 hB rfl (jx_ok_rm (by omega) (Nat.le_of_ble_eq_true rfl)) (Nat.le_of_ble_eq_true rfl) (jx_rmc (by omega)) (jx_rms (by omega)) (c_M_mayBeJoined (d := 0) f1 hB ?_)
          dsimp only [Option.toList, List.cons_append, List.nil_append]
          rw [hmj]
          refine jx_if_eq (tgt := 133) d_M_joined_48 (by decide) (fun c48 => ?_) (fun c48 => ?_)
          · exact absurd c48 (by decide)
          · refine jx_aload_n (i := 0) d_M_joined_51 rfl rfl ?_
            refine jx_getf d_M_joined_52 gf_M_13 hB rfl ?_
            refine jx_iload_n (i := 1) d_M_joined_55 rfl rfl ?_
            refine jx_laldj d_M_joined_56 h2 rfl (by omega) (by omega) ?_
            refine jx_lstore d_M_joined_57 (Nat.le_of_ble_eq_true rfl) (jx_f7_4 (by trivial)) ?_
            refine jx_aload_n (i := 0) d_M_joined_59 rfl rfl ?_
            refine jx_getf d_M_joined_60 gf_M_29 hB rfl ?_
            refine jx_iload_n (i := 3) d_M_joined_63 rfl rfl ?_
            refine jx_ialdj d_M_joined_64 h7 rfl (by omega) (by omega) ?_
            refine jx_iconst (v := 1) d_M_joined_65 (by decide) ?_
            refine jx_isub d_M_joined_66 ?_
            refine jx_istore d_M_joined_67 (Nat.le_of_ble_eq_true rfl) (jx_e7_6 (by trivial)) ?_
            rw [f4, g3]
            exact inner (kd i).1 _ (Nat.le_refl _) (sp_bm_bw hmj f1 _ _ _ _ _ _ (fun q hq => (g5 q hq).2))
    refine jx_iconst (v := 1) d_M_joined_26 (by decide) ?_
    refine jx_istore_n (i := 2) d_M_joined_27 rfl (Nat.le_of_ble_eq_true rfl) (jx_e7_2 (by trivial)) ?_
    refine jx_iconst (v := 0) d_M_joined_28 (by decide) ?_
    refine jx_istore_n (i := 3) d_M_joined_29 rfl (Nat.le_of_ble_eq_true rfl) (jx_e7_3 (by trivial)) ?_
    exact loop nK 0 (by omega)
theorem c_M_joined (hd : 1 < d) (hN : mW M b la wi en pe cd lr fr gt lt tk lc db fc le nF fd fw nK nm kd nS sn nA ac nO oc)
    (k : ∀ f, f < nF → x = nI f → ∀ M', mW M' b la wi en pe 0 lr fr gt lt tk lc db fc le nF fd fw nK nm kd nS sn nA ac nO oc → mFr b M M' → Z (some (.int (kf_b (sp_jo (fd f).1 (fd f).2.1 (fd f).2.2.1 kd nK)))) M' sz) (kx : ¬ (0 ≤ x.toInt ∧ x.toInt < nF) → ∀ M', mW M' b la wi en pe 1 lr fr gt lt tk lc db fc le nF fd fw nK nm kd nS sn nA ac nO oc → mFr b M M' → Z (some (.int 0)) M' sz) : jx_Cr md_M_joined G d [.ref b, .int x] M sz 0 0 Z := by
  refine jx_ent rfl (Nat.le_of_ble_eq_true rfl) (l := [some (.ref b), some (.int x), none, none, none, none, none]) (by simp [jx_le, jx_eas, Value.category]) (fun hlt => ?_)
  obtain ⟨mk, ki, st, nu, fa, fl, nn, si, wo, ti, va, so, hmk, hB, hO, hF, hK, hS5, hS⟩ := id hN
  have hU : ∀ cd' : Int32, mW (jx_up M b (kf_M la wi en pe cd' nF b lr fr nK nS (kf_b (sp_wm gt)) mk lt nA nO tk lc db fc le)) b la wi en pe cd' lr fr gt lt tk lc db fc le nF fd fw nK nm kd nS sn nA ac nO oc := fun cd' => ⟨mk, ki, st, nu, fa, fl, nn, si, wo, ti, va, so, hmk, jx_up_s _ _ _, hO.to (fun q q1 q2 => jx_up_n _ _ (by omega)), hF, hK, hS5, hS⟩
  refine jx_aload_n (i := 0) d_M_joined_0 rfl rfl ?_
  refine jx_aload_n (i := 0) d_M_joined_1 rfl rfl ?_
  refine jx_iload_n (i := 1) d_M_joined_2 rfl rfl ?_
  refine jx_callV1 d_M_joined_3 mv_M_83 hB rfl (jx_ok_rm (by omega) (Nat.le_of_ble_eq_true rfl)) (Nat.le_of_ble_eq_true rfl) (jx_rmc (by omega)) (jx_rms (by omega)) (c_M_isFold (d := 0) hN ?_)
  dsimp only [Option.toList, List.cons_append, List.nil_append]
  refine jx_if_eq (tgt := 13) d_M_joined_6 (by decide) (fun c6 => ?_) (fun c6 => ?_)
  · refine jx_iconst (v := 1) d_M_joined_13 (by decide) ?_
    refine jx_putf d_M_joined_14 pf_M_67 hB (Nat.le_of_ble_eq_true rfl) rfl rfl ?_
    refine jx_aload_n (i := 0) d_M_joined_17 rfl rfl ?_
    refine jx_getf d_M_joined_18 gf_M_67 (jx_up_s _ _ _) rfl ?_
    refine jx_if_le (tgt := 26) d_M_joined_21 (by decide) (fun c21 => ?_) (fun c21 => ?_)
    · exact absurd c21 (by decide)
    · refine jx_iconst (v := 0) d_M_joined_24 (by decide) ?_
      exact jx_zret d_M_joined_25 rfl (by first | exact Or.inl rfl | exact Or.inr rfl) (by omega) (by omega) (kx (of_decide_eq_false (kf_b_ne c6)) _ (hU 1) (fun q hq => jx_up_n _ _ (by omega)))
  · obtain ⟨f, hf, hxf⟩ := nI_ofI (of_decide_eq_true (kf_b_ne0 c6))
    have hk := k f hf hxf _ (hU 0) (fun q hq => jx_up_n _ _ (by omega))
    subst hxf
    refine jx_iconst (v := 0) d_M_joined_9 (by decide) ?_
    refine jx_goto (tgt := 14) d_M_joined_10 (by decide) ?_
    refine jx_putf d_M_joined_14 pf_M_67 hB (Nat.le_of_ble_eq_true rfl) rfl rfl ?_
    refine jx_aload_n (i := 0) d_M_joined_17 rfl rfl ?_
    refine jx_getf d_M_joined_18 gf_M_67 (jx_up_s _ _ _) rfl ?_
    refine jx_if_le (tgt := 26) d_M_joined_21 (by decide) (fun c21 => ?_) (fun c21 => ?_)
    · exact v_M_joined hd hf (hU 0) hk
    · exact absurd (by decide) c21
end CM8
