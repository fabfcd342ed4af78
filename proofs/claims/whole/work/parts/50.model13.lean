/-! PART 50: the reference: take, whole -/
section CM13
variable {G : jx_G} {d b nF nK sz nS nA nO j n pl : Nat} {la wi en pe cd lr fr tk lc db fc le : Int32} {gt lt t v mk : Int64} {nm : Nat → Int64} {kd : Nat → sp_key} {fd : sp_fd} {fw : Nat → Nat → Int64} {sn ac oc : Nat → Int64} {M : jx_H} {Z : Option Value → jx_H → Nat → Prop}
variable {ki : Nat → Int32} {st nu : Nat → Int64} {fa : Nat → Int32} {fl nn : Nat → Int64} {si wo : Nat → Int32} {ti va so : Nat → Int64}
/-- the work of a row that is taken: n rows with it, its place pl -/
theorem v_M_take2 (hd : 0 < d) (hj : j < 30) (hn : n ≤ 60) (hB : M b = some (kf_M la wi en pe cd nF b lr fr nK nS (kf_b (sp_wm gt)) mk lt nA nO tk lc db fc le)) (hO : mO M b ki st nu fa fl nn si wo ti va so ac oc) (hF : mF nF fd fw ki st nu fa fl) (hsi : si j = nI n)
    (k : ∀ M', M' b = some (kf_M la wi en pe cd nF b lr fr nK nS (kf_b (sp_wm gt)) mk lt nA nO tk lc db fc le) → mO M' b ki st nu fa fl nn si (upd wo j (sp_ws (sp_c3 fd n pl) (wo j) nF)) ti va so ac oc → mFr b M M' → jx_V md_M_take [] G (jx_rm d 0 0) (jx_Q1 G 0 0 Z) 213 [some (.ref b), none, some (.long t), none, none, none, none, none, none, none, none] [] M' sz 0 0) :
    jx_V md_M_take [] G (jx_rm d 0 0) (jx_Q1 G 0 0 Z) 157 [some (.ref b), some (.int (nI j)), some (.long t), none, some (.long v), none, some (.int (nI pl)), some (.int (kf_b (decide (pl = n - 1)))), none, none, none] [] M sz 0 0 := by
  have hnF := hF.1
  have loop : ∀ (r f : Nat), f + r = nF → ∀ M1, M1 b = some (kf_M la wi en pe cd nF b lr fr nK nS (kf_b (sp_wm gt)) mk lt nA nO tk lc db fc le) → mO M1 b ki st nu fa fl nn si (upd wo j (sp_ws (sp_c3 fd n pl) (wo j) f)) ti va so ac oc → mFr b M M1 → jx_V md_M_take [] G (jx_rm d 0 0) (jx_Q1 G 0 0 Z) 160 [some (.ref b), some (.int (nI j)), some (.long t), none, some (.long v), none, some (.int (nI pl)), some (.int (kf_b (decide (pl = n - 1)))), some (.int (nI f)), none, none] [] M1 sz 0 0 := by
    intro r
    induction r with
    | zero =>
      intro f hf M1 hB1 hO1 hf1
      refine jx_iload d_M_take_160 rfl ?_
      refine jx_aload_n (i := 0) d_M_take_162 rfl rfl ?_
      refine jx_getf d_M_take_163 gf_M_71 hB1 rfl ?_
      refine jx_icmp_ge (tgt := 213) d_M_take_166 (by decide) (fun c166 => ?_) (fun c166 => ?_)
      · refine jx_wk (l' := [some (.ref b), none, some (.long t), none, none, none, none, none, none, none, none]) (by simp [jx_le]) ?_
        exact k M1 hB1 (by rw [show nF = f by omega]; exact hO1) hf1
      · exact absurd ((nI_leI (by omega) (by omega)).mpr (by omega)) c166
    | succ r ih =>
      intro f hf M1 hB1 hO1 hf1
      obtain ⟨f1, f2, f3, f4, f5, f6⟩ := hF.2.1 f (by omega)
      obtain ⟨h1, h2, h3, h4, h5, h6, h7, h8, h9, h10, h11, h12, h13⟩ := id hO1
      have nx := ih (f + 1) (by omega) (jx_up M1 (b + 8) (kf_ia 30 (upd wo j (sp_ws (sp_c3 fd n pl) (wo j) (f + 1))))) ((jx_up_n _ _ (by omega)).trans hB1) (hO1.s_wo _) (hf1.up (by omega) (by omega))
      refine jx_iload d_M_take_160 rfl ?_
      refine jx_aload_n (i := 0) d_M_take_162 rfl rfl ?_
      refine jx_getf d_M_take_163 gf_M_71 hB1 rfl ?_
      refine jx_icmp_ge (tgt := 213) d_M_take_166 (by decide) (fun c166 => ?_) (fun c166 => ?_)
      · exact absurd ((nI_leI (by omega) (by omega)).mp c166) (by omega)
      · refine jx_aload_n (i := 0) d_M_take_169 rfl rfl ?_
        refine jx_getf d_M_take_170 gf_M_32 hB1 rfl ?_
        refine jx_iload_n (i := 1) d_M_take_173 rfl rfl ?_
        refine jx_dup2_11 d_M_take_174 rfl rfl ?_
        refine jx_ialdj d_M_take_175 h8 rfl (by omega) (by omega) ?_
        refine jx_iload d_M_take_176 rfl ?_
        refine jx_if_ne (tgt := 195) d_M_take_178 (by decide) (fun c178 => ?_) (fun c178 => ?_)
        · rw [upd_s]
          refine jx_iconst (v := 1) d_M_take_195 (by decide) ?_
          refine jx_goto (tgt := 205) d_M_take_196 (by decide) ?_
          refine jx_iadd d_M_take_205 ?_
          refine jx_iastj d_M_take_206 h8 rfl (by omega) (by omega) ?_
          refine jx_iinc d_M_take_207 rfl (Nat.le_of_ble_eq_true rfl) (jx_e11_8 (by trivial)) ?_
          refine jx_goto (tgt := 160) d_M_take_210 (by decide) ?_
          rw [upd_u, nI_1]
          rw [sp_ws, show sp_c3 fd n pl f = 1 by rw [sp_c3, kf_b_ne0 c178]; rfl] at nx
          exact nx
        · rw [upd_s]
          refine jx_aload_n (i := 0) d_M_take_181 rfl rfl ?_
          refine jx_aload_n (i := 0) d_M_take_182 rfl rfl ?_
          refine jx_getf d_M_take_183 gf_M_7 hB1 rfl ?_
          refine jx_iload d_M_take_186 rfl ?_
          refine jx_ialdj d_M_take_188 h1 rfl (by omega) (by omega) ?_
          rw [f3]
          refine jx_callV1 d_M_take_189 mv_M_145 hB1 rfl (jx_ok_rm (by omega) (Nat.le_of_ble_eq_true rfl)) (Nat.le_of_ble_eq_true rfl) (jx_rmc (by omega)) (jx_rms (by omega)) (c_M_mayBeJoined (d := 0) f1 hB1 ?_)
          dsimp only [Option.toList, List.cons_append, List.nil_append]
          refine jx_if_eq (tgt := 199) d_M_take_192 (by decide) (fun c192 => ?_) (fun c192 => ?_)
          · refine jx_aload_n (i := 0) d_M_take_199 rfl rfl ?_
            refine jx_getf d_M_take_200 gf_M_29 hB1 rfl ?_
            refine jx_iload_n (i := 1) d_M_take_203 rfl rfl ?_
            refine jx_ialdj d_M_take_204 h7 rfl (by omega) (by omega) ?_
            refine jx_iadd d_M_take_205 ?_
            refine jx_iastj d_M_take_206 h8 rfl (by omega) (by omega) ?_
            refine jx_iinc d_M_take_207 rfl (Nat.le_of_ble_eq_true rfl) (jx_e11_8 (by trivial)) ?_
            refine jx_goto (tgt := 160) d_M_take_210 (by decide) ?_
            rw [hsi, upd_u, nI_1]
            rw [sp_ws, show sp_c3 fd n pl f = nI n by rw [sp_c3, kf_b_ne c178, kf_b_ne c192]; rfl] at nx
            exact nx
          · refine jx_iconst (v := 1) d_M_take_195 (by decide) ?_
            refine jx_goto (tgt := 205) d_M_take_196 (by decide) ?_
            refine jx_iadd d_M_take_205 ?_
            refine jx_iastj d_M_take_206 h8 rfl (by omega) (by omega) ?_
            refine jx_iinc d_M_take_207 rfl (Nat.le_of_ble_eq_true rfl) (jx_e11_8 (by trivial)) ?_
            refine jx_goto (tgt := 160) d_M_take_210 (by decide) ?_
            rw [upd_u, nI_1]
            rw [sp_ws, show sp_c3 fd n pl f = 1 by rw [sp_c3, kf_b_ne c178, kf_b_ne0 c192]; rfl] at nx
            exact nx
  refine jx_iconst (v := 0) d_M_take_157 (by decide) ?_
  refine jx_istore d_M_take_158 (Nat.le_of_ble_eq_true rfl) (jx_e11_8 (by trivial)) ?_
  exact loop nF 0 (by omega) M hB (by rw [show sp_ws (sp_c3 fd n pl) (wo j) 0 = wo j from rfl, upd_id]; exact hO) (mFr.refl b M)
/-- the rows behind the new one move up -/
theorem v_M_take1 {tm : Nat → Int64} (hd : 0 < d) (hj : j < 30) (hn : n < 60) (hpl : pl ≤ n) (hlo : ∀ i, i < pl → tm i ≤ t) (hhi : ∀ i, pl ≤ i → i < n → t < tm i) (htm : ∀ i, i < n → ti (62 * j + i) = tm i) (hB : M b = some (kf_M la wi en pe cd nF b lr fr nK nS (kf_b (sp_wm gt)) mk lt nA nO tk lc db fc le)) (hO : mO M b ki st nu fa fl nn si wo ti va so ac oc) (hF : mF nF fd fw ki st nu fa fl) (hsi : si j = nI n)
    (k : ∀ M', M' b = some (kf_M la wi en pe cd nF b lr fr nK nS (kf_b (sp_wm gt)) mk lt nA nO (tk + 1) lc db fc le) → mO M' b ki st nu fa fl nn (upd si j (nI (n + 1))) (upd wo j (sp_ws (sp_c3 fd (n + 1) pl) (wo j) nF)) (sp_in ti (62 * j + n) (62 * j + pl) t) (sp_in va (62 * j + n) (62 * j + pl) v) so ac oc → mFr b M M' → jx_V md_M_take [] G (jx_rm d 0 0) (jx_Q1 G 0 0 Z) 213 [some (.ref b), none, some (.long t), none, none, none, none, none, none, none, none] [] M' sz 0 0) :
    jx_V md_M_take [] G (jx_rm d 0 0) (jx_Q1 G 0 0 Z) 0 [some (.ref b), some (.int (nI j)), some (.long t), none, some (.long v), none, none, none, none, none, none] [] M sz 0 0 := by
  have rest : ∀ M1, M1 b = some (kf_M la wi en pe cd nF b lr fr nK nS (kf_b (sp_wm gt)) mk lt nA nO (tk + 1) lc db fc le) → mO M1 b ki st nu fa fl nn si wo (sp_sh ti (62 * j + n) (62 * j + pl)) (sp_sh va (62 * j + n) (62 * j + pl)) so ac oc → mFr b M M1 → jx_V md_M_take [] G (jx_rm d 0 0) (jx_Q1 G 0 0 Z) 100 [some (.ref b), some (.int (nI j)), some (.long t), none, some (.long v), none, some (.int (nI pl)), none, none, none, none] [] M1 sz 0 0 := by
    intro M1 hB1 hO1 hf1
    obtain ⟨h1, h2, h3, h4, h5, h6, h7, h8, h9, h10, h11, h12, h13⟩ := id hO1
    have hB2 := fun e => (jx_up_n M1 e (show b ≠ b + 9 by omega)).trans hB1
    have h10' := fun e => (jx_up_n M1 e (show b + 10 ≠ b + 9 by omega)).trans h10
    refine jx_aload_n (i := 0) d_M_take_100 rfl rfl ?_
    refine jx_getf d_M_take_101 gf_M_35 hB1 rfl ?_
    refine jx_bipush (v := 62) d_M_take_104 (by decide) ?_
    refine jx_iload_n (i := 1) d_M_take_106 rfl rfl ?_
    refine jx_imul d_M_take_107 ?_
    refine jx_iload d_M_take_108 rfl ?_
    refine jx_iadd d_M_take_110 ?_
    refine jx_lload_n (i := 2) d_M_take_111 rfl rfl ?_
    refine jx_lastj d_M_take_112 h9 (e62 _ _) (by omega) (by omega) ?_
    refine jx_aload_n (i := 0) d_M_take_113 rfl rfl ?_
    refine jx_getf d_M_take_114 gf_M_38 (hB2 _) rfl ?_
    refine jx_bipush (v := 62) d_M_take_117 (by decide) ?_
    refine jx_iload_n (i := 1) d_M_take_119 rfl rfl ?_
    refine jx_imul d_M_take_120 ?_
    refine jx_iload d_M_take_121 rfl ?_
    refine jx_iadd d_M_take_123 ?_
    refine jx_lload d_M_take_124 rfl ?_
    refine jx_lastj d_M_take_126 (h10' _) (e62 _ _) (by omega) (by omega) ?_
    have hO2 := (hO1.s_ti (vp_updL (sp_sh ti (62 * j + n) (62 * j + pl)) (62 * j + pl) t)).s_va (vp_updL (sp_sh va (62 * j + n) (62 * j + pl)) (62 * j + pl) v)
    have hB3 : jx_up (jx_up M1 (b + 9) (kf_la 1860 (vp_updL (sp_sh ti (62 * j + n) (62 * j + pl)) (62 * j + pl) t))) (b + 10) (kf_la 1860 (vp_updL (sp_sh va (62 * j + n) (62 * j + pl)) (62 * j + pl) v)) b = some (kf_M la wi en pe cd nF b lr fr nK nS (kf_b (sp_wm gt)) mk lt nA nO (tk + 1) lc db fc le) := (jx_up_n _ _ (by omega)).trans (hB2 _)
    have hf3 : mFr b M (jx_up (jx_up M1 (b + 9) (kf_la 1860 (vp_updL (sp_sh ti (62 * j + n) (62 * j + pl)) (62 * j + pl) t))) (b + 10) (kf_la 1860 (vp_updL (sp_sh va (62 * j + n) (62 * j + pl)) (62 * j + pl) v))) := (hf1.up (by omega) (by omega)).up (by omega) (by omega)
    generalize jx_up (jx_up M1 (b + 9) (kf_la 1860 (vp_updL (sp_sh ti (62 * j + n) (62 * j + pl)) (62 * j + pl) t))) (b + 10) (kf_la 1860 (vp_updL (sp_sh va (62 * j + n) (62 * j + pl)) (62 * j + pl) v)) = M3 at *
    obtain ⟨i1, i2, i3, i4, i5, i6, i7, i8, i9, i10, i11, i12, i13⟩ := id hO2
    refine jx_aload_n (i := 0) d_M_take_127 rfl rfl ?_
    refine jx_getf d_M_take_128 gf_M_29 hB3 rfl ?_
    refine jx_iload_n (i := 1) d_M_take_131 rfl rfl ?_
    refine jx_dup2_11 d_M_take_132 rfl rfl ?_
    refine jx_ialdj d_M_take_133 i7 rfl hj (by omega) ?_
    refine jx_iconst (v := 1) d_M_take_134 (by decide) ?_
    refine jx_iadd d_M_take_135 ?_
    rw [hsi, nI_1]
    refine jx_iastj d_M_take_136 i7 rfl hj (by omega) ?_
    have hO4 := hO2.s_si (upd si j (nI (n + 1)))
    have hB4 := (jx_up_n M3 (kf_ia 30 (upd si j (nI (n + 1)))) (show b ≠ b + 7 by omega)).trans hB3
    have hf4 := hf3.up (q := b + 7) (e := kf_ia 30 (upd si j (nI (n + 1)))) (by omega) (by omega)
    generalize jx_up M3 (b + 7) (kf_ia 30 (upd si j (nI (n + 1)))) = M4 at *
    have fin : ∀ bo : Bool, bo = decide (pl = n + 1 - 1) → jx_V md_M_take [] G (jx_rm d 0 0) (jx_Q1 G 0 0 Z) 155 [some (.ref b), some (.int (nI j)), some (.long t), none, some (.long v), none, some (.int (nI pl)), none, none, none, none] [.int (kf_b bo)] M4 sz 0 0 := by
      intro bo hbo
      refine jx_istore d_M_take_155 (Nat.le_of_ble_eq_true rfl) (jx_e11_7 (by trivial)) ?_
      rw [hbo]
      exact v_M_take2 (n := n + 1) (tk := tk + 1) (fd := fd) (fw := fw) hd hj (by omega) hB4 hO4 hF (upd_s _ _ _) (fun M' a1 a2 a3 => k M' a1 a2 (fun q hq => (a3 q hq).trans (hf4 q hq)))
    obtain ⟨u1, u2, u3, u4, u5, u6, u7, u8, u9, u10, u11, u12, u13⟩ := id hO4
    refine jx_iload d_M_take_137 rfl ?_
    refine jx_aload_n (i := 0) d_M_take_139 rfl rfl ?_
    refine jx_getf d_M_take_140 gf_M_29 hB4 rfl ?_
    refine jx_iload_n (i := 1) d_M_take_143 rfl rfl ?_
    refine jx_ialdj d_M_take_144 u7 rfl (by omega) (by omega) ?_
    refine jx_iconst (v := 1) d_M_take_145 (by decide) ?_
    refine jx_isub d_M_take_146 ?_
    rw [upd_s, nI_pred]
    refine jx_icmp_ne (tgt := 154) d_M_take_147 (by decide) (fun c147 => ?_) (fun c147 => ?_)
    · refine jx_iconst (v := 0) d_M_take_154 (by decide) ?_
      exact fin false (by rw [decide_eq_false (fun h => c147 (by rw [h]; rfl))])
    · refine jx_iconst (v := 1) d_M_take_150 (by decide) ?_
      refine jx_goto (tgt := 155) d_M_take_151 (by decide) ?_
      refine fin true (by rw [decide_eq_true]; exact (nI_eq (by omega) (by omega)).mp c147)
  have loop : ∀ (r at_ : Nat), pl + r = at_ → at_ ≤ n → ∀ M1, M1 b = some (kf_M la wi en pe cd nF b lr fr nK nS (kf_b (sp_wm gt)) mk lt nA nO (tk + 1) lc db fc le) → mO M1 b ki st nu fa fl nn si wo (sp_sh ti (62 * j + n) (62 * j + at_)) (sp_sh va (62 * j + n) (62 * j + at_)) so ac oc → mFr b M M1 → jx_V md_M_take [] G (jx_rm d 0 0) (jx_Q1 G 0 0 Z) 18 [some (.ref b), some (.int (nI j)), some (.long t), none, some (.long v), none, some (.int (nI at_)), none, none, none, none] [] M1 sz 0 0 := by
    intro r
    induction r with
    | zero =>
      intro at_ hat hatn M1 hB1 hO1 hf1
      have hap : at_ = pl := by omega
      subst hap
      obtain ⟨h1, h2, h3, h4, h5, h6, h7, h8, h9, h10, h11, h12, h13⟩ := id hO1
      refine jx_iload d_M_take_18 rfl ?_
      refine jx_if_le (tgt := 100) d_M_take_20 (by decide) (fun c20 => ?_) (fun c20 => ?_)
      · exact rest M1 hB1 hO1 hf1
      · have hp0 : 0 < at_ := by
          rcases Nat.eq_zero_or_pos at_ with h | h
          · exact absurd (by rw [h]; decide) c20
          · exact h
        have q1 : (62 : Int32) * nI j + nI at_ - 1 = nI (62 * j + (at_ - 1)) := by
          rw [e62, show 62 * j + at_ = (62 * j + (at_ - 1)) + 1 by omega, nI_pred]
        refine jx_aload_n (i := 0) d_M_take_23 rfl rfl ?_
        refine jx_getf d_M_take_24 gf_M_35 hB1 rfl ?_
        refine jx_bipush (v := 62) d_M_take_27 (by decide) ?_
        refine jx_iload_n (i := 1) d_M_take_29 rfl rfl ?_
        refine jx_imul d_M_take_30 ?_
        refine jx_iload d_M_take_31 rfl ?_
        refine jx_iadd d_M_take_33 ?_
        refine jx_iconst (v := 1) d_M_take_34 (by decide) ?_
        refine jx_isub d_M_take_35 ?_
        refine jx_laldj d_M_take_36 h9 q1 (by omega) (by omega) ?_
        refine jx_lload_n (i := 2) d_M_take_37 rfl rfl ?_
        refine jx_l_le (tgt := 100) d_M_take_38 d_M_take_39 (by decide) (fun c38 => ?_) (fun c38 => ?_)
        · exact rest M1 hB1 hO1 hf1
        · have : sp_sh ti (62 * j + n) (62 * j + at_) (62 * j + (at_ - 1)) = tm (at_ - 1) := by
            unfold sp_sh
            rw [if_neg (by omega)]
            exact htm _ (by omega)
          rw [this] at c38
          exact absurd (hlo (at_ - 1) (by omega)) c38
    | succ r ih =>
      intro at_ hat hatn M1 hB1 hO1 hf1
      obtain ⟨h1, h2, h3, h4, h5, h6, h7, h8, h9, h10, h11, h12, h13⟩ := id hO1
      have q1 : (62 : Int32) * nI j + nI at_ - 1 = nI (62 * j + (at_ - 1)) := by
        rw [e62, show 62 * j + at_ = (62 * j + (at_ - 1)) + 1 by omega, nI_pred]
      have es : ∀ f : Nat → Int64, vp_updL (sp_sh f (62 * j + n) (62 * j + at_)) (62 * j + at_) (sp_sh f (62 * j + n) (62 * j + at_) (62 * j + (at_ - 1))) = sp_sh f (62 * j + n) (62 * j + (at_ - 1)) := by
        intro f
        have := sp_sh_s f (n := 62 * j + n) (i := 62 * j + (at_ - 1)) (by omega)
        rw [show 62 * j + (at_ - 1) + 1 = 62 * j + at_ by omega] at this
        exact this
      refine jx_iload d_M_take_18 rfl ?_
      refine jx_if_le (tgt := 100) d_M_take_20 (by decide) (fun c20 => ?_) (fun c20 => ?_)
      · have := (nI_leI (a := at_) (b := 0) (by omega) (by omega)).mp c20
        omega
      · refine jx_aload_n (i := 0) d_M_take_23 rfl rfl ?_
        refine jx_getf d_M_take_24 gf_M_35 hB1 rfl ?_
        refine jx_bipush (v := 62) d_M_take_27 (by decide) ?_
        refine jx_iload_n (i := 1) d_M_take_29 rfl rfl ?_
        refine jx_imul d_M_take_30 ?_
        refine jx_iload d_M_take_31 rfl ?_
        refine jx_iadd d_M_take_33 ?_
        refine jx_iconst (v := 1) d_M_take_34 (by decide) ?_
        refine jx_isub d_M_take_35 ?_
        refine jx_laldj d_M_take_36 h9 q1 (by omega) (by omega) ?_
        refine jx_lload_n (i := 2) d_M_take_37 rfl rfl ?_
        refine jx_l_le (tgt := 100) d_M_take_38 d_M_take_39 (by decide) (fun c38 => ?_) (fun c38 => ?_)
        · have : sp_sh ti (62 * j + n) (62 * j + at_) (62 * j + (at_ - 1)) = tm (at_ - 1) := by
            unfold sp_sh
            rw [if_neg (by omega)]
            exact htm _ (by omega)
          rw [this] at c38
          exact absurd c38 (l_nle (hhi (at_ - 1) (by omega) (by omega)))
        · have hB2 := fun e => (jx_up_n M1 e (show b ≠ b + 9 by omega)).trans hB1
          have h10' := fun e => (jx_up_n M1 e (show b + 10 ≠ b + 9 by omega)).trans h10
          refine jx_aload_n (i := 0) d_M_take_42 rfl rfl ?_
          refine jx_getf d_M_take_43 gf_M_35 hB1 rfl ?_
          refine jx_bipush (v := 62) d_M_take_46 (by decide) ?_
          refine jx_iload_n (i := 1) d_M_take_48 rfl rfl ?_
          refine jx_imul d_M_take_49 ?_
          refine jx_iload d_M_take_50 rfl ?_
          refine jx_iadd d_M_take_52 ?_
          refine jx_aload_n (i := 0) d_M_take_53 rfl rfl ?_
          refine jx_getf d_M_take_54 gf_M_35 hB1 rfl ?_
          refine jx_bipush (v := 62) d_M_take_57 (by decide) ?_
          refine jx_iload_n (i := 1) d_M_take_59 rfl rfl ?_
          refine jx_imul d_M_take_60 ?_
          refine jx_iload d_M_take_61 rfl ?_
          refine jx_iadd d_M_take_63 ?_
          refine jx_iconst (v := 1) d_M_take_64 (by decide) ?_
          refine jx_isub d_M_take_65 ?_
          refine jx_laldj d_M_take_66 h9 q1 (by omega) (by omega) ?_
          refine jx_lastj d_M_take_67 h9 (e62 _ _) (by omega) (by omega) ?_
          refine jx_aload_n (i := 0) d_M_take_68 rfl rfl ?_
          refine jx_getf d_M_take_69 gf_M_38 (hB2 _) rfl ?_
          refine jx_bipush (v := 62) d_M_take_72 (by decide) ?_
          refine jx_iload_n (i := 1) d_M_take_74 rfl rfl ?_
          refine jx_imul d_M_take_75 ?_
          refine jx_iload d_M_take_76 rfl ?_
          refine jx_iadd d_M_take_78 ?_
          refine jx_aload_n (i := 0) d_M_take_79 rfl rfl ?_
          refine jx_getf d_M_take_80 gf_M_38 (hB2 _) rfl ?_
          refine jx_bipush (v := 62) d_M_take_83 (by decide) ?_
          refine jx_iload_n (i := 1) d_M_take_85 rfl rfl ?_
          refine jx_imul d_M_take_86 ?_
          refine jx_iload d_M_take_87 rfl ?_
          refine jx_iadd d_M_take_89 ?_
          refine jx_iconst (v := 1) d_M_take_90 (by decide) ?_
          refine jx_isub d_M_take_91 ?_
          refine jx_laldj d_M_take_92 (h10' _) q1 (by omega) (by omega) ?_
          refine jx_lastj d_M_take_93 (h10' _) (e62 _ _) (by omega) (by omega) ?_
          rw [es, es]
          refine jx_iincM d_M_take_94 rfl (Nat.le_of_ble_eq_true rfl) (jx_e11_6 (by trivial)) ?_
          refine jx_goto (tgt := 18) d_M_take_97 (by decide) ?_
          rw [show nI at_ + -1 = nI (at_ - 1) by rw [← Int32.sub_eq_add_neg, show at_ = (at_ - 1) + 1 by omega, nI_pred]; rfl]
          exact ih (at_ - 1) (by omega) (by omega) _ ((jx_up_n _ _ (by omega)).trans (hB2 _)) ((hO1.s_ti _).s_va _) ((hf1.up (by omega) (by omega)).up (by omega) (by omega))
  have h7 := hO.2.2.2.2.2.2.1
  refine jx_aload_n (i := 0) d_M_take_0 rfl rfl ?_
  refine jx_dup d_M_take_1 rfl ?_
  refine jx_getf d_M_take_2 gf_M_80 hB rfl ?_
  refine jx_iconst (v := 1) d_M_take_5 (by decide) ?_
  refine jx_iadd d_M_take_6 ?_
  refine jx_putf d_M_take_7 pf_M_80 hB (Nat.le_of_ble_eq_true rfl) rfl rfl ?_
  refine jx_aload_n (i := 0) d_M_take_10 rfl rfl ?_
  refine jx_getf d_M_take_11 gf_M_29 (jx_up_s _ _ _) rfl ?_
  refine jx_iload_n (i := 1) d_M_take_14 rfl rfl ?_
  refine jx_ialdj d_M_take_15 ((jx_up_n _ _ (by omega)).trans h7) rfl hj (by omega) ?_
  refine jx_istore d_M_take_16 (Nat.le_of_ble_eq_true rfl) (jx_e11_6 (by trivial)) ?_
  rw [hsi]
  refine loop (n - pl) n (by omega) (Nat.le_refl _) _ (jx_up_s _ _ _) ?_ ((mFr.refl b M).up (by omega) (by omega))
  rw [sp_sh_n, sp_sh_n]
  exact hO.s_b _
theorem c_M_take {P T g A W n : Nat} {thr : Int64} (hd : 3 < d) (hj : j < nK) (h60 : (kd j).1 < 60) (ht : t = lN n) (hn : n ≤ 2 ^ 40) (hW : wi = nI W) (hW1 : W ≤ 100000) (hP : pe = nI P) (hP1 : P ≤ 100000) (hA : la = nI A) (hA1 : A ≤ 100000) (hg : sp_gt gt g) (hg1 : g ≤ 2 ^ 40) (hlt0 : lt = lN T) (hT : T ≤ (g - A) / P * P) (hdv : P ∣ T) (hthr : thr = lN (max g n) - la.toInt64 - wi.toInt64) (hsoj : sp_so (kd j)) (hso : ∀ i, i < nK → sp_so (sp_lk fd nF wi thr nK (va_up kd j (sp_tq fd nF t v (kd j))) i)) (hnO : nO < 2 ^ 27) (hN : mW M b la wi en pe cd lr fr gt lt tk lc db fc le nF fd fw nK nm kd nS sn nA ac nO oc)
    (k : ∀ M', mW M' b la wi en pe cd lr fr (lN (max g n)) (lN (sp_tT (max g n) A P T)) (tk + 1) lc db fc (sp_ll wi thr nK (va_up kd j (sp_tq fd nF t v (kd j))) le) nF fd fw nK nm (sp_lk fd nF wi thr nK (va_up kd j (sp_tq fd nF t v (kd j)))) nS sn nA ac ((sp_to nF fd nm (sp_lk fd nF wi thr nK (va_up kd j (sp_tq fd nF t v (kd j)))) nK (max g n) A P T (nO, oc)).1) ((sp_to nF fd nm (sp_lk fd nF wi thr nK (va_up kd j (sp_tq fd nF t v (kd j)))) nK (max g n) A P T (nO, oc)).2) → mFr b M M' → Z none M' sz) :
    jx_Cr md_M_take G d [.ref b, .int (nI j), .long t, .long v] M sz 0 0 Z := by
  refine jx_ent rfl (Nat.le_of_ble_eq_true rfl) (l := [some (.ref b), some (.int (nI j)), some (.long t), none, some (.long v), none, none, none, none, none, none]) (by simp [jx_le, jx_eas, Value.category]) (fun hlt => ?_)
  obtain ⟨mk, ki, st, nu, fa, fl, nn, si, wo, ti, va, so, hmk, hB, hO, hF, hK, hS5, hS⟩ := id hN
  have hnK := hK.1
  obtain ⟨g1, g2, g3, g4, g5⟩ := hK.2.1 j hj
  have ht1 : t + 1 = lN (n + 1) := by rw [ht, lN_1]
  have hpln : sp_tp t (kd j) ≤ (kd j).1 := sp_ld_le _ _
  have lt1 : ∀ x : Int64, x < t + 1 ↔ x ≤ t := by
    intro x
    rw [Int64.lt_iff_toInt_lt, Int64.le_iff_toInt_le, ht1, ht, pk_lT (by omega), pk_lT (by omega)]
    omega
  have hT' : T ≤ (max g n - A) / P * P := Nat.le_trans hT (Nat.mul_le_mul_right _ (Nat.div_le_div_right (by omega)))
  refine v_M_take1 (n := (kd j).1) (pl := sp_tp t (kd j)) (tm := (kd j).2.2.1) (fd := fd) (fw := fw) (by omega) (by omega) h60 hpln (fun i hi => (lt1 _).mp (of_decide_eq_true (sp_ld_lt (P := fun q => decide ((kd j).2.2.1 q < t + 1)) hi))) (fun i h1 h2 => l_gt (fun h => sp_so_ge hsoj h1 h2 ((lt1 _).mpr h))) (fun i hi => (g5 i hi).1) hB hO hF g3 ?_
  intro M1 a1 a2 a3
  have hN1 : mW M1 b la wi en pe cd lr fr gt lt (tk + 1) lc db fc le nF fd fw nK nm (va_up kd j (sp_tq fd nF t v (kd j))) nS sn nA ac nO oc := by
    refine ⟨mk, ki, st, nu, fa, fl, nn, _, _, _, _, so, hmk, a1, a2, hF, ⟨hnK, fun i hi => ?_, fun i hi hi2 => ?_⟩, hS5, hS⟩
    · by_cases hij : i = j
      · subst hij
        rw [va_up_s, upd_s, upd_s]
        refine ⟨?_, g2, rfl, ?_, fun q hq => ⟨?_, ?_⟩⟩
        · show (kd i).1 + 1 ≤ 60
          omega
        · show sp_ws (sp_c3 fd ((kd i).1 + 1) (sp_tp t (kd i))) (wo i) nF = sp_ws (sp_c3 fd ((kd i).1 + 1) (sp_tp t (kd i))) (kd i).2.1 nF
          rw [g4]
        · exact sp_in_off ti _ t hpln hq (fun q hq => (g5 q hq).1)
        · exact sp_in_off va _ v hpln hq (fun q hq => (g5 q hq).2)
      · rw [va_up_n _ _ hij, upd_n _ _ hij, upd_n _ _ hij]
        obtain ⟨r1, r2, r3, r4, r5⟩ := hK.2.1 i hi
        refine ⟨r1, r2, r3, r4, fun q hq => ?_⟩
        rw [sp_in_out _ _ hpln (by omega), sp_in_out _ _ hpln (by omega)]
        exact r5 q hq
    · rw [upd_n _ _ (by omega), upd_n _ _ (by omega)]
      exact hK.2.2 i hi hi2
  refine v_M_take3 (g := g) (A := A) (n := n) (by simp [jx_le]) ht hn hA hA1 hg hg1 hN1 (fun M2 hN2 hf2 => ?_)
  refine v_M_take4 (P := P) (T := T) (g := max g n) (A := A) (W := W) (thr := thr) hd (by simp [jx_le]) hW hW1 hP hP1 hA hA1 rfl (by omega) hlt0 hT' hdv hthr hso hnO hN2 (fun M3 hN3 hf3 => ?_)
  exact k M3 hN3 (fun q hq => (hf3 q hq).trans ((hf2 q hq).trans (a3 q hq)))
end CM13
