/-! PART 48: the reference: timers -/
section CM11
variable {G : jx_G} {d b nF nK sz nS nA nO : Nat} {la wi en pe cd lr fr tk lc db fc le : Int32} {gt lt : Int64} {nm : Nat → Int64} {kd : Nat → sp_key} {fd : sp_fd} {fw : Nat → Nat → Int64} {sn ac oc : Nat → Int64} {M : jx_H} {Z : Option Value → jx_H → Nat → Prop}
theorem v_M_timers1 {m last fs : Int64} {nOe : Nat} (hd : 2 < d) (hso : ∀ j, j < nK → sp_so (kd j)) (hnO : nO + 30 < 2 ^ 28) (hN : mW M b la wi en pe cd lr fr gt lt tk lc db fc le nF fd fw nK nm kd nS sn nA ac nO oc)
    (k : ∀ M', mW M' b la wi en pe cd lr fr gt lt tk lc db fc le nF fd fw nK nm kd nS sn nA ac ((sp_tl nF fd nm kd m nK (nO, oc)).1) ((sp_tl nF fd nm kd m nK (nO, oc)).2) → mFr b M M' → jx_V md_M_timers [] G (jx_rm d 0 0) (jx_Q1 G 0 0 Z) 139 [some (.ref b), some (.long last), none, some (.long fs), none, some (.long m), none, none] [] M' sz 0 0) :
    jx_V md_M_timers [] G (jx_rm d 0 0) (jx_Q1 G 0 0 Z) 87 [some (.ref b), some (.long last), none, some (.long fs), none, some (.long m), none, none] [] M sz 0 0 := by
  have hnK : nK ≤ 30 := by
    obtain ⟨mk, ki, st, nu, fa, fl, nn, si, wo, ti, va, so, hmk, hB, hO, hF, hK, hS5, hS⟩ := id hN
    exact hK.1
  have loop : ∀ (r i : Nat), i + r = nK → ∀ M1, mW M1 b la wi en pe cd lr fr gt lt tk lc db fc le nF fd fw nK nm kd nS sn nA ac ((sp_tl nF fd nm kd m i (nO, oc)).1) ((sp_tl nF fd nm kd m i (nO, oc)).2) → mFr b M M1 → jx_V md_M_timers [] G (jx_rm d 0 0) (jx_Q1 G 0 0 Z) 90 [some (.ref b), some (.long last), none, some (.long fs), none, some (.long m), none, some (.int (nI i))] [] M1 sz 0 0 := by
    intro r
    induction r with
    | zero =>
      intro i hi M1 hN1 hf1
      obtain ⟨mk, ki, st, nu, fa, fl, nn, si, wo, ti, va, so, hmk, hB, hO, hF, hK, hS5, hS⟩ := id hN1
      refine jx_iload d_M_timers_90 rfl ?_
      refine jx_aload_n (i := 0) d_M_timers_92 rfl rfl ?_
      refine jx_getf d_M_timers_93 gf_M_74 hB rfl ?_
      refine jx_icmp_ge (tgt := 139) d_M_timers_96 (by decide) (fun c96 => ?_) (fun c96 => ?_)
      · have hin : i = nK := by omega
        subst hin
        refine jx_wk (l' := [some (.ref b), some (.long last), none, some (.long fs), none, some (.long m), none, none]) (by simp [jx_le]) ?_
        exact k M1 hN1 hf1
      · exact absurd ((nI_leI (by omega) (by omega)).mpr (by omega)) c96
    | succ r ih =>
      intro i hi M1 hN1 hf1
      obtain ⟨mk, ki, st, nu, fa, fl, nn, si, wo, ti, va, so, hmk, hB, hO, hF, hK, hS5, hS⟩ := id hN1
      obtain ⟨h1, h2, h3, h4, h5, h6, h7, h8, h9, h10, h11, h12, h13⟩ := id hO
      obtain ⟨g1, g2, g3, g4, g5⟩ := hK.2.1 i (by omega)
      have hle := sp_tl_le nF fd nm kd m i (nO, oc)
      have hle' : (sp_tl nF fd nm kd m i (nO, oc)).1 ≤ nO + i := hle
      have q0 : (62 : Int32) * nI i = nI (62 * i + 0) := by rw [show (62 : Int32) = nI 62 from rfl, pk_mul]; rfl
      have nx := ih (i + 1) (by omega)
      have skip : ¬ 0 < sp_ld (fun q => decide ((kd i).2.2.1 q < m)) (kd i).1 → jx_V md_M_timers [] G (jx_rm d 0 0) (jx_Q1 G 0 0 Z) 133 [some (.ref b), some (.long last), none, some (.long fs), none, some (.long m), none, some (.int (nI i))] [] M1 sz 0 0 := by
        intro hz
        refine jx_iinc d_M_timers_133 rfl (Nat.le_of_ble_eq_true rfl) (jx_e8_7 (by trivial)) ?_
        refine jx_goto (tgt := 90) d_M_timers_136 (by decide) ?_
        rw [nI_1]
        refine nx M1 ?_ hf1
        rw [sp_tl, if_neg hz]
        exact hN1
      refine jx_iload d_M_timers_90 rfl ?_
      refine jx_aload_n (i := 0) d_M_timers_92 rfl rfl ?_
      refine jx_getf d_M_timers_93 gf_M_74 hB rfl ?_
      refine jx_icmp_ge (tgt := 139) d_M_timers_96 (by decide) (fun c96 => ?_) (fun c96 => ?_)
      · exact absurd ((nI_leI (by omega) (by omega)).mp c96) (by omega)
      · refine jx_aload_n (i := 0) d_M_timers_99 rfl rfl ?_
        refine jx_getf d_M_timers_100 gf_M_29 hB rfl ?_
        refine jx_iload d_M_timers_103 rfl ?_
        refine jx_ialdj d_M_timers_105 h7 rfl (by omega) (by omega) ?_
        refine jx_if_le (tgt := 133) d_M_timers_106 (by decide) (fun c106 => ?_) (fun c106 => ?_)
        · rw [g3] at c106
          have h0 : (kd i).1 = 0 := by
            have := (nI_leI (a := (kd i).1) (b := 0) (by omega) (by omega)).mp c106
            omega
          exact skip (fun h => by have := (sp_ld_pos.mp h).1; omega)
        · rw [g3] at c106
          have h0 : 0 < (kd i).1 := by
            rcases Nat.eq_zero_or_pos (kd i).1 with h | h
            · exact absurd (by rw [h]; decide) c106
            · exact h
          refine jx_aload_n (i := 0) d_M_timers_109 rfl rfl ?_
          refine jx_getf d_M_timers_110 gf_M_35 hB rfl ?_
          refine jx_bipush (v := 62) d_M_timers_113 (by decide) ?_
          refine jx_iload d_M_timers_115 rfl ?_
          refine jx_imul d_M_timers_117 ?_
          refine jx_laldj d_M_timers_118 h9 q0 (by omega) (by omega) ?_
          refine jx_lload d_M_timers_119 rfl ?_
          refine jx_l_ge (tgt := 133) d_M_timers_121 d_M_timers_122 (by decide) (fun c121 => ?_) (fun c121 => ?_)
          · rw [(g5 0 h0).1] at c121
            exact skip (fun h => l_nle (of_decide_eq_true (sp_ld_pos.mp h).2) c121)
          · rw [(g5 0 h0).1] at c121
            have hpos : 0 < sp_ld (fun q => decide ((kd i).2.2.1 q < m)) (kd i).1 := sp_ld_pos.mpr ⟨h0, decide_eq_true (l_gt c121)⟩
            refine jx_aload_n (i := 0) d_M_timers_125 rfl rfl ?_
            refine jx_iload d_M_timers_126 rfl ?_
            refine jx_lload d_M_timers_128 rfl ?_
            refine jx_callV2 d_M_timers_130 mv_M_166 hB rfl (jx_ok_rm (by omega) (Nat.le_of_ble_eq_true rfl)) (Nat.le_of_ble_eq_true rfl) (jx_rmc (by omega)) (jx_rms (by omega)) (c_M_tell (d := 2) (by omega) (show i < nK by omega) (by omega) hN1 ?_)
            dsimp only [Option.toList, List.cons_append, List.nil_append]
            intro M2 hN2 hf2
            try dsimp only [Option.toList, List.cons_append, List.nil_append]
            refine jx_iinc d_M_timers_133 rfl (Nat.le_of_ble_eq_true rfl) (jx_e8_7 (by trivial)) ?_
            refine jx_goto (tgt := 90) d_M_timers_136 (by decide) ?_
            rw [nI_1]
            refine nx M2 ?_ (fun q hq => (hf2 q hq).trans (hf1 q hq))
            rw [sp_tl, if_pos hpos]
            rw [sp_ou_congr (x' := fun f => sp_fo (fd f).1 (fd f).2.1 (fd f).2.2.1 (kd i).2.2.1 (kd i).2.2.2.1 (sp_ld (fun q => decide ((kd i).2.2.1 q < m)) (kd i).1)) (fun f _ => sp_fb_fo (hso i (by omega)) _ _ _ _)] at hN2
            exact hN2
  refine jx_iconst (v := 0) d_M_timers_87 (by decide) ?_
  refine jx_istore d_M_timers_88 (Nat.le_of_ble_eq_true rfl) (jx_e8_7 (by trivial)) ?_
  exact loop nK 0 (by omega) M hN (mFr.refl b M)
theorem v_M_timers2 {L P : Nat} {fs : Int64} (hd : 2 < d) (hP0 : 0 < P) (hP : P ≤ 100000) (hpe : pe = nI P) (hL : L ≤ 2 ^ 40) (hso : ∀ j, j < nK → sp_so (kd j)) : ∀ (bk : Nat) (M1 : jx_H) (nO1 : Nat) (oc1 : Nat → Int64), bk * P ≤ L + P → nO1 + 30 * bk < 2 ^ 28 → mW M1 b la wi en pe cd lr fr gt lt tk lc db fc le nF fd fw nK nm kd nS sn nA ac nO1 oc1 → (∀ M', mW M' b la wi en pe cd lr fr gt lt tk lc db fc le nF fd fw nK nm kd nS sn nA ac ((sp_dt nF fd nm kd nK L P bk (nO1, oc1)).1) ((sp_dt nF fd nm kd nK L P bk (nO1, oc1)).2) → mFr b M1 M' → ∀ m', jx_V md_M_timers [] G (jx_rm d 0 0) (jx_Q1 G 0 0 Z) 152 [some (.ref b), some (.long (lN L)), none, some (.long fs), none, some (.long m'), none, none] [] M' sz 0 0) →
    jx_V md_M_timers [] G (jx_rm d 0 0) (jx_Q1 G 0 0 Z) 80 [some (.ref b), some (.long (lN L)), none, some (.long fs), none, some (.long (lN (L + P - bk * P))), none, none] [] M1 sz 0 0 := by
  intro bk
  induction bk with
  | zero =>
    intro M1 nO1 oc1 hb hn hN1 k
    refine jx_lload d_M_timers_80 rfl ?_
    refine jx_lload_n (i := 1) d_M_timers_82 rfl rfl ?_
    refine jx_l_gt (tgt := 152) d_M_timers_83 d_M_timers_84 (by decide) (fun c83 => ?_) (fun c83 => ?_)
    · exact k M1 hN1 (mFr.refl b M1) _
    · exact absurd ((pk_lLT (by omega) (by omega)).mpr (by omega)) c83
  | succ bk ih =>
    intro M1 nO1 oc1 hb hn hN1 k
    have hmul : (bk + 1) * P = bk * P + P := Nat.succ_mul bk P
    have e1 : L + P - (bk + 1) * P = L - bk * P := by omega
    rw [e1]
    refine jx_lload d_M_timers_80 rfl ?_
    refine jx_lload_n (i := 1) d_M_timers_82 rfl rfl ?_
    refine jx_l_gt (tgt := 152) d_M_timers_83 d_M_timers_84 (by decide) (fun c83 => ?_) (fun c83 => ?_)
    · exact absurd ((pk_lLT (by omega) (by omega)).mp c83) (by omega)
    · refine v_M_timers1 (nOe := 0) hd hso (by omega) hN1 (fun M2 hN2 hf2 => ?_)
      obtain ⟨mk, ki, st, nu, fa, fl, nn, si, wo, ti, va, so, hmk, hB, hO, hF, hK, hS5, hS⟩ := id hN2
      have hnK := hK.1
      refine jx_lload d_M_timers_139 rfl ?_
      refine jx_aload_n (i := 0) d_M_timers_141 rfl rfl ?_
      refine jx_getf d_M_timers_142 gf_M_64 hB rfl ?_
      refine jx_i2l d_M_timers_145 ?_
      refine jx_ladd d_M_timers_146 ?_
      refine jx_lstore d_M_timers_147 (Nat.le_of_ble_eq_true rfl) (jx_f8_5 (by trivial)) ?_
      refine jx_goto (tgt := 80) d_M_timers_149 (by decide) ?_
      rw [hpe, nI_l (by omega), lN_add, show L - bk * P + P = L + P - bk * P by omega]
      have hle : (sp_tl nF fd nm kd (lN (L - bk * P)) nK (nO1, oc1)).1 ≤ nO1 + nK := sp_tl_le nF fd nm kd (lN (L - bk * P)) nK (nO1, oc1)
      refine ih M2 _ _ (by omega) (by omega) hN2 (fun M3 hN3 hf3 m' => k M3 ?_ (fun q hq => (hf3 q hq).trans (hf2 q hq)) m')
      rw [sp_dt, lN_mul, lN_sub (by omega)]
      exact hN3
theorem c_M_timers {P T g A : Nat} (hd : 2 < d) (hP : pe = nI P) (hP0 : 0 < P) (hP1 : P ≤ 100000) (hA : la = nI A) (hA1 : A ≤ 100000) (hg : gt = lN g) (hg1 : g ≤ 2 ^ 40) (hlt0 : lt = lN T) (hT : T ≤ (g - A) / P * P) (hdv : P ∣ T) (hso : ∀ j, j < nK → sp_so (kd j)) (hnO : nO < 2 ^ 27) (hN : mW M b la wi en pe cd lr fr gt lt tk lc db fc le nF fd fw nK nm kd nS sn nA ac nO oc)
    (k : ∀ M', mW M' b la wi en pe cd lr fr gt (lN (sp_tT g A P T)) tk lc db fc le nF fd fw nK nm kd nS sn nA ac ((sp_to nF fd nm kd nK g A P T (nO, oc)).1) ((sp_to nF fd nm kd nK g A P T (nO, oc)).2) → mFr b M M' → Z none M' sz) : jx_Cr md_M_timers G d [.ref b] M sz 0 0 Z := by
  refine jx_ent rfl (Nat.le_of_ble_eq_true rfl) (l := [some (.ref b), none, none, none, none, none, none, none]) (by simp [jx_le, jx_eas, Value.category]) (fun hlt => ?_)
  obtain ⟨mk, ki, st, nu, fa, fl, nn, si, wo, ti, va, so, hmk, hB, hO, hF, hK, hS5, hS⟩ := id hN
  have hwm : sp_wm gt = true := by
    rw [hg]
    have : ¬ lN g = -1 := fun h => by
      have := congrArg Int64.toInt h
      rw [pk_lT (by omega), show (-1 : Int64).toInt = -1 by decide] at this
      omega
    simp [sp_wm, this]
  have hmk' := hmk hwm
  have hsub : mk.toInt = (g : Int) - A := by
    rw [hmk', hg, hA, nI_l (by omega), Int64.toInt_sub, pk_lT (by omega), pk_lT (by omega)]
    exact Int.bmod_eq_of_le (by omega) (by omega)
  have e0 : (0 : Int64).toInt = 0 := by decide
  refine jx_aload_n (i := 0) d_M_timers_0 rfl rfl ?_
  refine jx_getf d_M_timers_1 gf_M_114 hB rfl ?_
  refine jx_lconst (v := 0) d_M_timers_4 (by decide) ?_
  refine jx_l_ge (tgt := 10) d_M_timers_5 d_M_timers_6 (by decide) (fun c5 => ?_) (fun c5 => ?_)
  · rw [Int64.le_iff_toInt_le, hsub, e0] at c5
    have hW : mk = lN (g - A) := by
      apply Int64.toInt_inj.mp
      rw [hsub, pk_lT (by omega)]
      omega
    have hpl : pe.toInt64 = lN P := by rw [hP, nI_l (by omega)]
    have hne : ¬ pe.toInt64 = 0 := fun h => by
      rw [hpl] at h
      have := (pk_lEQ (b := 0) (by omega) (by omega)).mp h
      omega
    have hLW : (g - A) / P * P ≤ g - A := Nat.div_mul_le_self _ _
    have eL : mk / pe.toInt64 * pe.toInt64 = lN ((g - A) / P * P) := by
      rw [hW, hpl, pk_lDiv (by omega) hP0 (by omega), lN_mul]
    obtain ⟨c, hc⟩ : P ∣ (g - A) / P * P := Nat.dvd_mul_left P _
    obtain ⟨u, hu⟩ := hdv
    generalize hLe : (g - A) / P * P = L at *
    have e19 : ((19 : Int64) * pe.toInt64) = lN (19 * P) := by rw [hpl, show (19 : Int64) = lN 19 from rfl, lN_mul]
    have eF : (lN L - 19 * pe.toInt64).toInt = (L : Int) - 19 * P := by
      rw [e19, Int64.toInt_sub, pk_lT (by omega), pk_lT (by omega), Int.bmod_eq_of_le (by omega) (by omega)]
      omega
    have eT : lt + pe.toInt64 = lN (T + P) := by rw [hlt0, hpl, lN_add]
    have hcu : u ≤ c := by
      rw [hc, hu] at hT
      exact Nat.le_of_mul_le_mul_left hT hP0
    have hdue : (L - T) / P = c - u := by
      rw [hc, hu, ← Nat.mul_sub, Nat.mul_div_cancel_left _ hP0]
    have hLc : L = c * P := by rw [hc, Nat.mul_comm]
    have hTu : T = u * P := by rw [hu, Nat.mul_comm]
    have rest : ∀ F, F = L + P - (min (c - u) 20) * P → jx_V md_M_timers [] G (jx_rm d 0 0) (jx_Q1 G 0 0 Z) 76 [some (.ref b), some (.long (lN L)), none, none, none, none, none, none] [.long (lN F)] M sz 0 0 := by
      intro F hF9
      have hm20 : min (c - u) 20 * P ≤ L + P := by
        have : min (c - u) 20 ≤ c := by omega
        have := Nat.mul_le_mul_right P this
        omega
      refine jx_lstore_n (i := 3) d_M_timers_76 rfl (Nat.le_of_ble_eq_true rfl) (jx_f8_3 (by trivial)) ?_
      refine jx_lload_n (i := 3) d_M_timers_77 rfl rfl ?_
      refine jx_lstore d_M_timers_78 (Nat.le_of_ble_eq_true rfl) (jx_f8_5 (by trivial)) ?_
      rw [hF9]
      refine v_M_timers2 (L := L) (P := P) (fs := lN (L + P - min (c - u) 20 * P)) hd hP0 hP1 hP (by omega) hso (min (c - u) 20) M nO oc hm20 (by omega) hN (fun M2 hN2 hf2 m' => ?_)
      have hto : sp_to nF fd nm kd nK g A P T (nO, oc) = sp_dt nF fd nm kd nK L P (min (c - u) 20) (nO, oc) := by
        unfold sp_to
        by_cases hid : P = 0 ∨ g ≤ A
        · have hga : g = A := by omega
          have hL0 : L = 0 := by omega
          have hc0 : c - u = 0 := by
            rw [hL0] at hLc
            rcases Nat.mul_eq_zero.mp hLc.symm with h | h <;> omega
          rw [if_pos hid, hc0]
          rfl
        · rw [if_neg hid, hLe, hdue]
      have htT : sp_tT g A P T = if T < L then L else T := by
        unfold sp_tT
        by_cases hid : P = 0 ∨ g ≤ A
        · rw [if_pos hid, if_neg (by omega)]
        · rw [if_neg hid, hLe]
          split <;> omega
      rw [← hto] at hN2
      obtain ⟨mk2, ki2, st2, nu2, fa2, fl2, nn2, si2, wo2, ti2, va2, so2, hmk2, hB2, hO2, hF2, hK2, hS52, hS2⟩ := id hN2
      refine jx_lload_n (i := 1) d_M_timers_152 rfl rfl ?_
      refine jx_aload_n (i := 0) d_M_timers_153 rfl rfl ?_
      refine jx_getf d_M_timers_154 gf_M_163 hB2 rfl ?_
      refine jx_l_le (tgt := 166) d_M_timers_157 d_M_timers_158 (by decide) (fun c157 => ?_) (fun c157 => ?_)
      · rw [hlt0] at c157
        have hnl : ¬ T < L := fun h => by
          have := (pk_lLE (by omega) (by omega)).mp c157
          omega
        rw [htT, if_neg hnl, ← hlt0] at k
        exact jx_vret d_M_timers_166 rfl (by omega) (by omega) (k M2 hN2 hf2)
      · rw [hlt0] at c157
        have hnl : T < L := by
          rcases Nat.lt_or_ge T L with h | h
          · exact h
          · exact absurd ((pk_lLE (by omega) (by omega)).mpr h) c157
        rw [htT, if_pos hnl] at k
        refine jx_aload_n (i := 0) d_M_timers_161 rfl rfl ?_
        refine jx_lload_n (i := 1) d_M_timers_162 rfl rfl ?_
        refine jx_putf d_M_timers_163 pf_M_163 hB2 (Nat.le_of_ble_eq_true rfl) rfl rfl ?_
        exact jx_vret d_M_timers_166 rfl (by omega) (by omega) (k _ ⟨mk2, ki2, st2, nu2, fa2, fl2, nn2, si2, wo2, ti2, va2, so2, hmk2, jx_up_s _ _ _, hO2.to (fun q q1 q2 => jx_up_n _ _ (by omega)), hF2, hK2, hS52, hS2⟩ (fun q hq => (jx_up_n _ _ (by omega)).trans (hf2 q hq)))
    refine jx_aload_n (i := 0) d_M_timers_10 rfl rfl ?_
    refine jx_getf d_M_timers_11 gf_M_114 hB rfl ?_
    refine jx_aload_n (i := 0) d_M_timers_14 rfl rfl ?_
    refine jx_getf d_M_timers_15 gf_M_64 hB rfl ?_
    refine jx_i2l d_M_timers_18 ?_
    refine jx_ldiv d_M_timers_19 hne ?_
    refine jx_aload_n (i := 0) d_M_timers_20 rfl rfl ?_
    refine jx_getf d_M_timers_21 gf_M_64 hB rfl ?_
    refine jx_i2l d_M_timers_24 ?_
    refine jx_lmul d_M_timers_25 ?_
    rw [eL]
    refine jx_lstore_n (i := 1) d_M_timers_26 rfl (Nat.le_of_ble_eq_true rfl) (jx_f8_1 (by trivial)) ?_
    refine jx_lload_n (i := 1) d_M_timers_27 rfl rfl ?_
    refine jx_ldc2 d_M_timers_28 rfl nv_M_161 ?_
    refine jx_aload_n (i := 0) d_M_timers_31 rfl rfl ?_
    refine jx_getf d_M_timers_32 gf_M_64 hB rfl ?_
    refine jx_i2l d_M_timers_35 ?_
    refine jx_lmul d_M_timers_36 ?_
    refine jx_lsub d_M_timers_37 ?_
    refine jx_aload_n (i := 0) d_M_timers_38 rfl rfl ?_
    refine jx_getf d_M_timers_39 gf_M_163 hB rfl ?_
    refine jx_aload_n (i := 0) d_M_timers_42 rfl rfl ?_
    refine jx_getf d_M_timers_43 gf_M_64 hB rfl ?_
    refine jx_i2l d_M_timers_46 ?_
    refine jx_ladd d_M_timers_47 ?_
    refine jx_l_le (tgt := 66) d_M_timers_48 d_M_timers_49 (by decide) (fun c48 => ?_) (fun c48 => ?_)
    · rw [eT, Int64.le_iff_toInt_le, eF, pk_lT (by omega)] at c48
      refine jx_aload_n (i := 0) d_M_timers_66 rfl rfl ?_
      refine jx_getf d_M_timers_67 gf_M_163 hB rfl ?_
      refine jx_aload_n (i := 0) d_M_timers_70 rfl rfl ?_
      refine jx_getf d_M_timers_71 gf_M_64 hB rfl ?_
      refine jx_i2l d_M_timers_74 ?_
      refine jx_ladd d_M_timers_75 ?_
      rw [eT]
      refine rest (T + P) ?_
      have hm : min (c - u) 20 = c - u := by
        rw [hLc, hTu] at c48
        have h3 : (c : Int) * P - 19 * P ≤ u * P + P := by
          have := c48
          simpa [Int.natCast_mul, Int.natCast_add] using this
        have h4 : ((c : Int) - 19) * P ≤ (u + 1) * P := by
          rw [Int.sub_mul, Int.add_mul, Int.one_mul]
          exact h3
        have h5 : (c : Int) - 19 ≤ u + 1 := Int.le_of_mul_le_mul_right h4 (by omega)
        omega
      rw [hm, Nat.sub_mul, ← hLc, ← hTu]
      omega
    · rw [eT, Int64.le_iff_toInt_le, eF, pk_lT (by omega)] at c48
      have hm : min (c - u) 20 = 20 := by
        rw [hLc, hTu] at c48
        have h3 : ¬ (c : Int) * P - 19 * P ≤ u * P + P := by
          have := c48
          simpa [Int.natCast_mul, Int.natCast_add] using this
        have h5 : ¬ (c : Int) - 19 ≤ u + 1 := fun h => h3 (by
          have := Int.mul_le_mul_of_nonneg_right h (show (0 : Int) ≤ P by omega)
          rw [Int.sub_mul, Int.add_mul, Int.one_mul] at this
          exact this)
        omega
      refine jx_lload_n (i := 1) d_M_timers_52 rfl rfl ?_
      refine jx_ldc2 d_M_timers_53 rfl nv_M_161 ?_
      refine jx_aload_n (i := 0) d_M_timers_56 rfl rfl ?_
      refine jx_getf d_M_timers_57 gf_M_64 hB rfl ?_
      refine jx_i2l d_M_timers_60 ?_
      refine jx_lmul d_M_timers_61 ?_
      refine jx_lsub d_M_timers_62 ?_
      refine jx_goto (tgt := 76) d_M_timers_63 (by decide) ?_
      rw [e19, lN_sub (by omega)]
      refine rest (L - 19 * P) ?_
      rw [hm]
      omega
  · rw [Int64.le_iff_toInt_le, hsub, e0] at c5
    exact jx_vret d_M_timers_9 rfl (by omega) (by omega) (by
      rw [sp_to, if_pos (Or.inr (by omega)), sp_tT, if_pos (Or.inr (by omega)), ← hlt0] at k
      exact k M hN (mFr.refl b M))
end CM11
