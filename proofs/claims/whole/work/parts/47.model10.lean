/-! PART 47: the reference: arrays changed one at a time; leave -/
section MOS
variable {M : jx_H} {b : Nat} {ki : Nat → Int32} {st nu : Nat → Int64} {fa : Nat → Int32} {fl nn : Nat → Int64} {si wo : Nat → Int32} {ti va so ac oc : Nat → Int64}
theorem mO.s_nn (x' : Nat → Int64) (h : mO M b ki st nu fa fl nn si wo ti va so ac oc) : mO (jx_up M (b + 6) (kf_la 30 x')) b ki st nu fa fl x' si wo ti va so ac oc := by
  obtain ⟨h1, h2, h3, h4, h5, h6, h7, h8, h9, h10, h11, h12, h13⟩ := h
  exact ⟨(jx_up_n _ _ (by omega)).trans h1, (jx_up_n _ _ (by omega)).trans h2, (jx_up_n _ _ (by omega)).trans h3, (jx_up_n _ _ (by omega)).trans h4, (jx_up_n _ _ (by omega)).trans h5, jx_up_s _ _ _, (jx_up_n _ _ (by omega)).trans h7, (jx_up_n _ _ (by omega)).trans h8, (jx_up_n _ _ (by omega)).trans h9, (jx_up_n _ _ (by omega)).trans h10, (jx_up_n _ _ (by omega)).trans h11, (jx_up_n _ _ (by omega)).trans h12, (jx_up_n _ _ (by omega)).trans h13⟩
theorem mO.s_si (x' : Nat → Int32) (h : mO M b ki st nu fa fl nn si wo ti va so ac oc) : mO (jx_up M (b + 7) (kf_ia 30 x')) b ki st nu fa fl nn x' wo ti va so ac oc := by
  obtain ⟨h1, h2, h3, h4, h5, h6, h7, h8, h9, h10, h11, h12, h13⟩ := h
  exact ⟨(jx_up_n _ _ (by omega)).trans h1, (jx_up_n _ _ (by omega)).trans h2, (jx_up_n _ _ (by omega)).trans h3, (jx_up_n _ _ (by omega)).trans h4, (jx_up_n _ _ (by omega)).trans h5, (jx_up_n _ _ (by omega)).trans h6, jx_up_s _ _ _, (jx_up_n _ _ (by omega)).trans h8, (jx_up_n _ _ (by omega)).trans h9, (jx_up_n _ _ (by omega)).trans h10, (jx_up_n _ _ (by omega)).trans h11, (jx_up_n _ _ (by omega)).trans h12, (jx_up_n _ _ (by omega)).trans h13⟩
theorem mO.s_wo (x' : Nat → Int32) (h : mO M b ki st nu fa fl nn si wo ti va so ac oc) : mO (jx_up M (b + 8) (kf_ia 30 x')) b ki st nu fa fl nn si x' ti va so ac oc := by
  obtain ⟨h1, h2, h3, h4, h5, h6, h7, h8, h9, h10, h11, h12, h13⟩ := h
  exact ⟨(jx_up_n _ _ (by omega)).trans h1, (jx_up_n _ _ (by omega)).trans h2, (jx_up_n _ _ (by omega)).trans h3, (jx_up_n _ _ (by omega)).trans h4, (jx_up_n _ _ (by omega)).trans h5, (jx_up_n _ _ (by omega)).trans h6, (jx_up_n _ _ (by omega)).trans h7, jx_up_s _ _ _, (jx_up_n _ _ (by omega)).trans h9, (jx_up_n _ _ (by omega)).trans h10, (jx_up_n _ _ (by omega)).trans h11, (jx_up_n _ _ (by omega)).trans h12, (jx_up_n _ _ (by omega)).trans h13⟩
theorem mO.s_ti (x' : Nat → Int64) (h : mO M b ki st nu fa fl nn si wo ti va so ac oc) : mO (jx_up M (b + 9) (kf_la 1860 x')) b ki st nu fa fl nn si wo x' va so ac oc := by
  obtain ⟨h1, h2, h3, h4, h5, h6, h7, h8, h9, h10, h11, h12, h13⟩ := h
  exact ⟨(jx_up_n _ _ (by omega)).trans h1, (jx_up_n _ _ (by omega)).trans h2, (jx_up_n _ _ (by omega)).trans h3, (jx_up_n _ _ (by omega)).trans h4, (jx_up_n _ _ (by omega)).trans h5, (jx_up_n _ _ (by omega)).trans h6, (jx_up_n _ _ (by omega)).trans h7, (jx_up_n _ _ (by omega)).trans h8, jx_up_s _ _ _, (jx_up_n _ _ (by omega)).trans h10, (jx_up_n _ _ (by omega)).trans h11, (jx_up_n _ _ (by omega)).trans h12, (jx_up_n _ _ (by omega)).trans h13⟩
theorem mO.s_va (x' : Nat → Int64) (h : mO M b ki st nu fa fl nn si wo ti va so ac oc) : mO (jx_up M (b + 10) (kf_la 1860 x')) b ki st nu fa fl nn si wo ti x' so ac oc := by
  obtain ⟨h1, h2, h3, h4, h5, h6, h7, h8, h9, h10, h11, h12, h13⟩ := h
  exact ⟨(jx_up_n _ _ (by omega)).trans h1, (jx_up_n _ _ (by omega)).trans h2, (jx_up_n _ _ (by omega)).trans h3, (jx_up_n _ _ (by omega)).trans h4, (jx_up_n _ _ (by omega)).trans h5, (jx_up_n _ _ (by omega)).trans h6, (jx_up_n _ _ (by omega)).trans h7, (jx_up_n _ _ (by omega)).trans h8, (jx_up_n _ _ (by omega)).trans h9, jx_up_s _ _ _, (jx_up_n _ _ (by omega)).trans h11, (jx_up_n _ _ (by omega)).trans h12, (jx_up_n _ _ (by omega)).trans h13⟩
theorem mO.s_so (x' : Nat → Int64) (h : mO M b ki st nu fa fl nn si wo ti va so ac oc) : mO (jx_up M (b + 11) (kf_la 4200 x')) b ki st nu fa fl nn si wo ti va x' ac oc := by
  obtain ⟨h1, h2, h3, h4, h5, h6, h7, h8, h9, h10, h11, h12, h13⟩ := h
  exact ⟨(jx_up_n _ _ (by omega)).trans h1, (jx_up_n _ _ (by omega)).trans h2, (jx_up_n _ _ (by omega)).trans h3, (jx_up_n _ _ (by omega)).trans h4, (jx_up_n _ _ (by omega)).trans h5, (jx_up_n _ _ (by omega)).trans h6, (jx_up_n _ _ (by omega)).trans h7, (jx_up_n _ _ (by omega)).trans h8, (jx_up_n _ _ (by omega)).trans h9, (jx_up_n _ _ (by omega)).trans h10, jx_up_s _ _ _, (jx_up_n _ _ (by omega)).trans h12, (jx_up_n _ _ (by omega)).trans h13⟩
theorem mO.s_b (e : jx_E) (h : mO M b ki st nu fa fl nn si wo ti va so ac oc) : mO (jx_up M b e) b ki st nu fa fl nn si wo ti va so ac oc := h.to (fun q q1 q2 => jx_up_n _ _ (by omega))
end MOS
theorem upd_u (f : Nat → Int32) (i : Nat) (v w : Int32) : upd (upd f i v) i w = upd f i w := by
  funext j
  by_cases h : j = i
  · subst h
    rw [upd_s, upd_s]
  · rw [upd_n _ _ h, upd_n _ _ h, upd_n _ _ h]
theorem upd_id (f : Nat → Int32) (i : Nat) : upd f i (f i) = f := by
  funext j
  by_cases h : j = i
  · subst h
    rw [upd_s]
  · rw [upd_n _ _ h]
theorem va_up_id {α : Type} (f : Nat → α) (i : Nat) : va_up f i (f i) = f := by
  funext j
  by_cases h : j = i
  · subst h
    rw [va_up_s]
  · rw [va_up_n _ _ h]
theorem mFr.refl (b : Nat) (M : jx_H) : mFr b M M := fun _ _ => rfl
theorem mFr.up {b q : Nat} {M M' : jx_H} {e : jx_E} (h : mFr b M M') (h1 : b ≤ q) (h2 : q ≤ b + 13) : mFr b M (jx_up M' q e) := fun p hp => (jx_up_n _ _ (by omega)).trans (h p hp)
/-- what leaving costs of the fold f -/
def sp_cl2 (fd : sp_fd) (g n : Nat) : Nat → Int32 := fun f => if sp_tb (nI (fd f).1) then nI g else nI n
section CM10
variable {G : jx_G} {d b nF nK sz nS nA nO j g n : Nat} {la wi en pe cd lr fr tk lc db fc le x x2 cs : Int32} {gt lt t v key s0 p0 m mk : Int64} {nm : Nat → Int64} {kd : Nat → sp_key} {fd : sp_fd} {fw : Nat → Nat → Int64} {sn ac oc : Nat → Int64} {M : jx_H} {Z : Option Value → jx_H → Nat → Prop}
variable {ki : Nat → Int32} {st nu : Nat → Int64} {fa : Nat → Int32} {fl nn : Nat → Int64} {si wo : Nat → Int32} {ti va so : Nat → Int64}
theorem v_M_leave3 (hd : 0 < d) (hj : j < 30) (hn : n ≤ 60) (hB : M b = some (kf_M la wi en pe cd nF b lr fr nK nS (kf_b (sp_wm gt)) mk lt nA nO tk lc db fc le)) (hO : mO M b ki st nu fa fl nn si wo ti va so ac oc) (hF : mF nF fd fw ki st nu fa fl) (hsi : si j = nI n)
    (k : ∀ M', M' b = some (kf_M la wi en pe cd nF b lr fr nK nS (kf_b (sp_wm gt)) mk lt nA nO tk lc db fc le) → mO M' b ki st nu fa fl nn si (upd wo j (sp_ws (sp_cl2 fd g n) (wo j) nF)) ti va so ac oc → mFr b M M' → Z none M' sz) :
    jx_V md_M_leave [] G (jx_rm d 0 0) (jx_Q1 G 0 0 Z) 134 [some (.ref b), some (.int (nI j)), some (.int (nI g)), none] [] M sz 0 0 := by
  have hnF := hF.1
  have loop : ∀ (r f : Nat), f + r = nF → ∀ M1, M1 b = some (kf_M la wi en pe cd nF b lr fr nK nS (kf_b (sp_wm gt)) mk lt nA nO tk lc db fc le) → mO M1 b ki st nu fa fl nn si (upd wo j (sp_ws (sp_cl2 fd g n) (wo j) f)) ti va so ac oc → mFr b M M1 → jx_V md_M_leave [] G (jx_rm d 0 0) (jx_Q1 G 0 0 Z) 136 [some (.ref b), some (.int (nI j)), some (.int (nI g)), some (.int (nI f))] [] M1 sz 0 0 := by
    intro r
    induction r with
    | zero =>
      intro f hf M1 hB1 hO1 hf1
      refine jx_iload_n (i := 3) d_M_leave_136 rfl rfl ?_
      refine jx_aload_n (i := 0) d_M_leave_137 rfl rfl ?_
      refine jx_getf d_M_leave_138 gf_M_71 hB1 rfl ?_
      refine jx_icmp_ge (tgt := 182) d_M_leave_141 (by decide) (fun c141 => ?_) (fun c141 => ?_)
      · exact jx_vret d_M_leave_182 rfl (by omega) (by omega) (k M1 hB1 (by rw [show nF = f by omega]; exact hO1) hf1)
      · exact absurd ((nI_leI (by omega) (by omega)).mpr (by omega)) c141
    | succ r ih =>
      intro f hf M1 hB1 hO1 hf1
      obtain ⟨f1, f2, f3, f4, f5, f6⟩ := hF.2.1 f (by omega)
      obtain ⟨h1, h2, h3, h4, h5, h6, h7, h8, h9, h10, h11, h12, h13⟩ := id hO1
      have nx := ih (f + 1) (by omega) (jx_up M1 (b + 8) (kf_ia 30 (upd wo j (sp_ws (sp_cl2 fd g n) (wo j) (f + 1))))) ((jx_up_n _ _ (by omega)).trans hB1) (hO1.s_wo _) (hf1.up (by omega) (by omega))
      refine jx_iload_n (i := 3) d_M_leave_136 rfl rfl ?_
      refine jx_aload_n (i := 0) d_M_leave_137 rfl rfl ?_
      refine jx_getf d_M_leave_138 gf_M_71 hB1 rfl ?_
      refine jx_icmp_ge (tgt := 182) d_M_leave_141 (by decide) (fun c141 => ?_) (fun c141 => ?_)
      · exact absurd ((nI_leI (by omega) (by omega)).mp c141) (by omega)
      · refine jx_aload_n (i := 0) d_M_leave_144 rfl rfl ?_
        refine jx_getf d_M_leave_145 gf_M_32 hB1 rfl ?_
        refine jx_iload_n (i := 1) d_M_leave_148 rfl rfl ?_
        refine jx_dup2_11 d_M_leave_149 rfl rfl ?_
        refine jx_ialdj d_M_leave_150 h8 rfl (by omega) (by omega) ?_
        refine jx_aload_n (i := 0) d_M_leave_151 rfl rfl ?_
        refine jx_aload_n (i := 0) d_M_leave_152 rfl rfl ?_
        refine jx_getf d_M_leave_153 gf_M_7 hB1 rfl ?_
        refine jx_iload_n (i := 3) d_M_leave_156 rfl rfl ?_
        refine jx_ialdj d_M_leave_157 h1 rfl (by omega) (by omega) ?_
        rw [f3, upd_s]
        refine jx_callV1 d_M_leave_158 mv_M_158 hB1 rfl (jx_ok_rm (by omega) (Nat.le_of_ble_eq_true rfl)) (Nat.le_of_ble_eq_true rfl) (jx_rmc (by omega)) (jx_rms (by omega)) (c_M_mayBeTakenBack (d := 0) f1 hB1 ?_)
        dsimp only [Option.toList, List.cons_append, List.nil_append]
        refine jx_if_eq (tgt := 168) d_M_leave_161 (by decide) (fun c161 => ?_) (fun c161 => ?_)
        · refine jx_aload_n (i := 0) d_M_leave_168 rfl rfl ?_
          refine jx_getf d_M_leave_169 gf_M_29 hB1 rfl ?_
          refine jx_iload_n (i := 1) d_M_leave_172 rfl rfl ?_
          refine jx_ialdj d_M_leave_173 h7 rfl (by omega) (by omega) ?_
          refine jx_iadd d_M_leave_174 ?_
          refine jx_iastj d_M_leave_175 h8 rfl (by omega) (by omega) ?_
          refine jx_iinc d_M_leave_176 rfl (Nat.le_of_ble_eq_true rfl) (jx_e4_3 (by trivial)) ?_
          refine jx_goto (tgt := 136) d_M_leave_179 (by decide) ?_
          rw [hsi, upd_u, nI_1]
          rw [sp_ws, sp_cl2, kf_b_ne c161] at nx
          exact nx
        · refine jx_iload_n (i := 2) d_M_leave_164 rfl rfl ?_
          refine jx_goto (tgt := 174) d_M_leave_165 (by decide) ?_
          refine jx_iadd d_M_leave_174 ?_
          refine jx_iastj d_M_leave_175 h8 rfl (by omega) (by omega) ?_
          refine jx_iinc d_M_leave_176 rfl (Nat.le_of_ble_eq_true rfl) (jx_e4_3 (by trivial)) ?_
          refine jx_goto (tgt := 136) d_M_leave_179 (by decide) ?_
          rw [upd_u, nI_1]
          rw [sp_ws, sp_cl2, kf_b_ne0 c161] at nx
          exact nx
  refine jx_iconst (v := 0) d_M_leave_134 (by decide) ?_
  refine jx_istore_n (i := 3) d_M_leave_135 rfl (Nat.le_of_ble_eq_true rfl) (jx_e4_3 (by trivial)) ?_
  exact loop nF 0 (by omega) M hB (by rw [show sp_ws (sp_cl2 fd g n) (wo j) 0 = wo j from rfl, upd_id]; exact hO) (mFr.refl b M)
theorem v_M_leave2 (hd : 0 < d) (hj : j < 30) (hg : 0 < g) (hn : n + g ≤ 60) (hB : M b = some (kf_M la wi en pe cd nF b lr fr nK nS (kf_b (sp_wm gt)) mk lt nA nO tk lc db fc le)) (hO : mO M b ki st nu fa fl nn si wo ti va so ac oc) (hF : mF nF fd fw ki st nu fa fl) (hsi : si j = nI n)
    (k : ∀ M', M' b = some (kf_M la wi en pe cd nF b lr fr nK nS (kf_b (sp_wm gt)) mk lt nA nO tk lc db fc le) → mO M' b ki st nu fa fl nn si (upd wo j (sp_ws (sp_cl2 fd g n) (wo j) nF)) (sp_mv ti (62 * j) g n) (sp_mv va (62 * j) g n) so ac oc → mFr b M M' → Z none M' sz) :
    jx_V md_M_leave [] G (jx_rm d 0 0) (jx_Q1 G 0 0 Z) 68 [some (.ref b), some (.int (nI j)), some (.int (nI g)), none] [] M sz 0 0 := by
  have loop : ∀ (r i : Nat), i + r = n → ∀ M1, M1 b = some (kf_M la wi en pe cd nF b lr fr nK nS (kf_b (sp_wm gt)) mk lt nA nO tk lc db fc le) → mO M1 b ki st nu fa fl nn si wo (sp_mv ti (62 * j) g i) (sp_mv va (62 * j) g i) so ac oc → mFr b M M1 → jx_V md_M_leave [] G (jx_rm d 0 0) (jx_Q1 G 0 0 Z) 70 [some (.ref b), some (.int (nI j)), some (.int (nI g)), some (.int (nI i))] [] M1 sz 0 0 := by
    intro r
    induction r with
    | zero =>
      intro i hi M1 hB1 hO1 hf1
      obtain ⟨h1, h2, h3, h4, h5, h6, h7, h8, h9, h10, h11, h12, h13⟩ := id hO1
      refine jx_iload_n (i := 3) d_M_leave_70 rfl rfl ?_
      refine jx_aload_n (i := 0) d_M_leave_71 rfl rfl ?_
      refine jx_getf d_M_leave_72 gf_M_29 hB1 rfl ?_
      refine jx_iload_n (i := 1) d_M_leave_75 rfl rfl ?_
      refine jx_ialdj d_M_leave_76 h7 rfl (by omega) (by omega) ?_
      refine jx_icmp_ge (tgt := 134) d_M_leave_77 (by decide) (fun c77 => ?_) (fun c77 => ?_)
      · refine jx_wk (l' := [some (.ref b), some (.int (nI j)), some (.int (nI g)), none]) (by simp [jx_le]) ?_
        have hin : i = n := by omega
        subst hin
        exact v_M_leave3 hd hj (by omega) hB1 hO1 hF hsi (fun M' a1 a2 a3 => k M' a1 a2 (fun q hq => (a3 q hq).trans (hf1 q hq)))
      · rw [hsi] at c77
        exact absurd ((nI_leI (by omega) (by omega)).mpr (by omega)) c77
    | succ r ih =>
      intro i hi M1 hB1 hO1 hf1
      obtain ⟨h1, h2, h3, h4, h5, h6, h7, h8, h9, h10, h11, h12, h13⟩ := id hO1
      have nx := ih (i + 1) (by omega) (jx_up (jx_up M1 (b + 9) (kf_la 1860 (sp_mv ti (62 * j) g (i + 1)))) (b + 10) (kf_la 1860 (sp_mv va (62 * j) g (i + 1)))) ((jx_up_n _ _ (by omega)).trans ((jx_up_n _ _ (by omega)).trans hB1)) ((hO1.s_ti _).s_va _) ((hf1.up (by omega) (by omega)).up (by omega) (by omega))
      have q1 : (62 : Int32) * nI j + nI g + nI i = nI (62 * j + g + i) := by rw [e62, nI_add]
      refine jx_iload_n (i := 3) d_M_leave_70 rfl rfl ?_
      refine jx_aload_n (i := 0) d_M_leave_71 rfl rfl ?_
      refine jx_getf d_M_leave_72 gf_M_29 hB1 rfl ?_
      refine jx_iload_n (i := 1) d_M_leave_75 rfl rfl ?_
      refine jx_ialdj d_M_leave_76 h7 rfl (by omega) (by omega) ?_
      refine jx_icmp_ge (tgt := 134) d_M_leave_77 (by decide) (fun c77 => ?_) (fun c77 => ?_)
      · rw [hsi] at c77
        exact absurd ((nI_leI (by omega) (by omega)).mp c77) (by omega)
      · refine jx_aload_n (i := 0) d_M_leave_80 rfl rfl ?_
        refine jx_getf d_M_leave_81 gf_M_35 hB1 rfl ?_
        refine jx_bipush (v := 62) d_M_leave_84 (by decide) ?_
        refine jx_iload_n (i := 1) d_M_leave_86 rfl rfl ?_
        refine jx_imul d_M_leave_87 ?_
        refine jx_iload_n (i := 3) d_M_leave_88 rfl rfl ?_
        refine jx_iadd d_M_leave_89 ?_
        refine jx_aload_n (i := 0) d_M_leave_90 rfl rfl ?_
        refine jx_getf d_M_leave_91 gf_M_35 hB1 rfl ?_
        refine jx_bipush (v := 62) d_M_leave_94 (by decide) ?_
        refine jx_iload_n (i := 1) d_M_leave_96 rfl rfl ?_
        refine jx_imul d_M_leave_97 ?_
        refine jx_iload_n (i := 2) d_M_leave_98 rfl rfl ?_
        refine jx_iadd d_M_leave_99 ?_
        refine jx_iload_n (i := 3) d_M_leave_100 rfl rfl ?_
        refine jx_iadd d_M_leave_101 ?_
        refine jx_laldj d_M_leave_102 h9 q1 (by omega) (by omega) ?_
        refine jx_lastj d_M_leave_103 h9 (e62 _ _) (by omega) (by omega) ?_
        have hB2 := fun e => (jx_up_n M1 e (show b ≠ b + 9 by omega)).trans hB1
        have h10' := fun e => (jx_up_n M1 e (show b + 10 ≠ b + 9 by omega)).trans h10
        rw [sp_mv_s ti hg]
        refine jx_aload_n (i := 0) d_M_leave_104 rfl rfl ?_
        refine jx_getf d_M_leave_105 gf_M_38 (hB2 _) rfl ?_
        refine jx_bipush (v := 62) d_M_leave_108 (by decide) ?_
        refine jx_iload_n (i := 1) d_M_leave_110 rfl rfl ?_
        refine jx_imul d_M_leave_111 ?_
        refine jx_iload_n (i := 3) d_M_leave_112 rfl rfl ?_
        refine jx_iadd d_M_leave_113 ?_
        refine jx_aload_n (i := 0) d_M_leave_114 rfl rfl ?_
        refine jx_getf d_M_leave_115 gf_M_38 (hB2 _) rfl ?_
        refine jx_bipush (v := 62) d_M_leave_118 (by decide) ?_
        refine jx_iload_n (i := 1) d_M_leave_120 rfl rfl ?_
        refine jx_imul d_M_leave_121 ?_
        refine jx_iload_n (i := 2) d_M_leave_122 rfl rfl ?_
        refine jx_iadd d_M_leave_123 ?_
        refine jx_iload_n (i := 3) d_M_leave_124 rfl rfl ?_
        refine jx_iadd d_M_leave_125 ?_
        refine jx_laldj d_M_leave_126 (h10' _) q1 (by omega) (by omega) ?_
        refine jx_lastj d_M_leave_127 (h10' _) (e62 _ _) (by omega) (by omega) ?_
        rw [sp_mv_s va hg]
        refine jx_iinc d_M_leave_128 rfl (Nat.le_of_ble_eq_true rfl) (jx_e4_3 (by trivial)) ?_
        refine jx_goto (tgt := 70) d_M_leave_131 (by decide) ?_
        rw [nI_1]
        exact nx
  refine jx_iconst (v := 0) d_M_leave_68 (by decide) ?_
  refine jx_istore_n (i := 3) d_M_leave_69 rfl (Nat.le_of_ble_eq_true rfl) (jx_e4_3 (by trivial)) ?_
  exact loop n 0 (by omega) M hB (by rw [sp_mv_0, sp_mv_0]; exact hO) (mFr.refl b M)
theorem c_M_leave {thr : Int64} (hd : 0 < d) (hj : j < nK) (hwm : sp_wm gt = true) (hthr : thr = gt - la.toInt64 - wi.toInt64) (hN : mW M b la wi en pe cd lr fr gt lt tk lc db fc le nF fd fw nK nm kd nS sn nA ac nO oc)
    (k : ∀ M', mW M' b la wi en pe cd lr fr gt lt tk lc db fc (le + nI (sp_lg thr (kd j))) nF fd fw nK nm (va_up kd j (sp_lv fd nF thr (kd j))) nS sn nA ac nO oc → mFr b M M' → Z none M' sz) : jx_Cr md_M_leave G d [.ref b, .int (nI j)] M sz 0 0 Z := by
  refine jx_ent rfl (Nat.le_of_ble_eq_true rfl) (l := [some (.ref b), some (.int (nI j)), none, none]) (by simp [jx_le, jx_eas, Value.category]) (fun hlt => ?_)
  obtain ⟨mk, ki, st, nu, fa, fl, nn, si, wo, ti, va, so, hmk, hB, hO, hF, hK, hS5, hS⟩ := id hN
  obtain ⟨h1, h2, h3, h4, h5, h6, h7, h8, h9, h10, h11, h12, h13⟩ := id hO
  have hnK := hK.1
  obtain ⟨g1, g2, g3, g4, g5⟩ := hK.2.1 j hj
  have hmw : mk - wi.toInt64 = thr := by rw [hthr, hmk hwm]
  have rest : ∀ g, sp_lg thr (kd j) = g → jx_V md_M_leave [] G (jx_rm d 0 0) (jx_Q1 G 0 0 Z) 43 [some (.ref b), some (.int (nI j)), some (.int (nI g)), none] [] M sz 0 0 := by
    intro g hg
    have hgn : g ≤ (kd j).1 := by rw [← hg]; exact sp_ld_le _ _
    refine jx_iload_n (i := 2) d_M_leave_43 rfl rfl ?_
    refine jx_if_ne (tgt := 48) d_M_leave_44 (by decide) (fun c44 => ?_) (fun c44 => ?_)
    · have hg0 : g ≠ 0 := fun h => c44 (by rw [h]; rfl)
      refine jx_aload_n (i := 0) d_M_leave_48 rfl rfl ?_
      refine jx_getf d_M_leave_49 gf_M_29 hB rfl ?_
      refine jx_iload_n (i := 1) d_M_leave_52 rfl rfl ?_
      refine jx_dup2_11 d_M_leave_53 rfl rfl ?_
      refine jx_ialdj d_M_leave_54 h7 rfl (show j < 30 by omega) (by omega) ?_
      refine jx_iload_n (i := 2) d_M_leave_55 rfl rfl ?_
      refine jx_isub d_M_leave_56 ?_
      rw [g3, pk_sub hgn]
      refine jx_iastj d_M_leave_57 h7 rfl (show j < 30 by omega) (by omega) ?_
      refine jx_aload_n (i := 0) d_M_leave_58 rfl rfl ?_
      refine jx_dup d_M_leave_59 rfl ?_
      refine jx_getf d_M_leave_60 gf_M_155 ((jx_up_n _ _ (by omega)).trans hB) rfl ?_
      refine jx_iload_n (i := 2) d_M_leave_63 rfl rfl ?_
      refine jx_iadd d_M_leave_64 ?_
      refine jx_putf d_M_leave_65 pf_M_155 ((jx_up_n _ _ (by omega)).trans hB) (Nat.le_of_ble_eq_true rfl) rfl rfl ?_
      refine v_M_leave2 (n := (kd j).1 - g) (g := g) (le := le + nI g) (fd := fd) (fw := fw) hd (by omega) (by omega) (by omega) (jx_up_s _ _ _) ((hO.s_si _).s_b _) hF (upd_s _ _ _) ?_
      intro M' a1 a2 a3
      have hlv : sp_lv fd nF thr (kd j) = sp_lx fd nF thr (kd j) := by rw [sp_lv, if_neg (by omega)]
      refine k M' ?_ (fun q hq => (a3 q hq).trans ((jx_up_n _ _ (by omega)).trans (jx_up_n _ _ (by omega))))
      rw [hg]
      refine ⟨mk, ki, st, nu, fa, fl, nn, _, _, _, _, so, hmk, a1, a2, hF, ⟨hnK, fun i hi => ?_, fun i hi hi2 => ?_⟩, hS5, hS⟩
      · by_cases hij : i = j
        · subst hij
          rw [va_up_s, upd_s, upd_s, hlv]
          refine ⟨?_, g2, ?_, ?_, fun q hq => ⟨?_, ?_⟩⟩
          · show (kd i).1 - sp_lg thr (kd i) ≤ 60
            omega
          · show nI ((kd i).1 - g) = nI ((kd i).1 - sp_lg thr (kd i))
            rw [hg]
          · show sp_ws (sp_cl2 fd g ((kd i).1 - g)) (wo i) nF = sp_ws (sp_c2 fd ((kd i).1 - sp_lg thr (kd i))) (sp_ws (sp_c1 fd (sp_lg thr (kd i))) (kd i).2.1 nF) nF
            rw [sp_ws_add, hg, g4]
            congr 1
            funext f
            unfold sp_cl2 sp_c1 sp_c2
            cases sp_tb (nI (fd f).1)
            · simp
            · simp
          · show sp_mv ti (62 * i) g ((kd i).1 - g) (62 * i + q) = sp_rm (kd i).2.2.1 (kd i).1 (sp_lg thr (kd i)) q
            rw [hg]
            exact sp_mv_in ti _ hgn (by have hq' : q < (kd i).1 - sp_lg thr (kd i) := hq; omega) (fun q hq => (g5 q hq).1)
          · show sp_mv va (62 * i) g ((kd i).1 - g) (62 * i + q) = sp_rm (kd i).2.2.2.1 (kd i).1 (sp_lg thr (kd i)) q
            rw [hg]
            exact sp_mv_in va _ hgn (by have hq' : q < (kd i).1 - sp_lg thr (kd i) := hq; omega) (fun q hq => (g5 q hq).2)
        · rw [va_up_n _ _ hij, upd_n _ _ hij, upd_n _ _ hij]
          obtain ⟨r1, r2, r3, r4, r5⟩ := hK.2.1 i hi
          refine ⟨r1, r2, r3, r4, fun q hq => ?_⟩
          rw [sp_mv_out _ (by omega), sp_mv_out _ (by omega)]
          exact r5 q hq
      · rw [upd_n _ _ (by omega), upd_n _ _ (by omega)]
        exact hK.2.2 i hi hi2
    · have hg0 : g = 0 := (nI_eq (b := 0) (by omega) (by omega)).mp c44
      exact jx_vret d_M_leave_47 rfl (by omega) (by omega) (by
        refine k M ?_ (mFr.refl b M)
        rw [sp_lv, if_pos (by omega), va_up_id, hg, hg0]
        rw [show le + nI 0 = le from Int32.add_zero le]
        exact hN)
  have loop : ∀ (r i : Nat), i + r = (kd j).1 → (∀ q, q < i → (kd j).2.2.1 q < thr) → jx_V md_M_leave [] G (jx_rm d 0 0) (jx_Q1 G 0 0 Z) 2 [some (.ref b), some (.int (nI j)), some (.int (nI i)), none] [] M sz 0 0 := by
    intro r
    induction r with
    | zero =>
      intro i hi hP
      refine jx_iload_n (i := 2) d_M_leave_2 rfl rfl ?_
      refine jx_aload_n (i := 0) d_M_leave_3 rfl rfl ?_
      refine jx_getf d_M_leave_4 gf_M_29 hB rfl ?_
      refine jx_iload_n (i := 1) d_M_leave_7 rfl rfl ?_
      refine jx_ialdj d_M_leave_8 h7 rfl (by omega) (by omega) ?_
      refine jx_icmp_ge (tgt := 43) d_M_leave_9 (by decide) (fun c9 => ?_) (fun c9 => ?_)
      · exact rest i (sp_ld_eq (by omega) (fun q hq => decide_eq_true (hP q hq)) (fun h => by omega))
      · rw [g3] at c9
        exact absurd ((nI_leI (by omega) (by omega)).mpr (by omega)) c9
    | succ r ih =>
      intro i hi hP
      refine jx_iload_n (i := 2) d_M_leave_2 rfl rfl ?_
      refine jx_aload_n (i := 0) d_M_leave_3 rfl rfl ?_
      refine jx_getf d_M_leave_4 gf_M_29 hB rfl ?_
      refine jx_iload_n (i := 1) d_M_leave_7 rfl rfl ?_
      refine jx_ialdj d_M_leave_8 h7 rfl (by omega) (by omega) ?_
      refine jx_icmp_ge (tgt := 43) d_M_leave_9 (by decide) (fun c9 => ?_) (fun c9 => ?_)
      · rw [g3] at c9
        exact absurd ((nI_leI (by omega) (by omega)).mp c9) (by omega)
      · refine jx_aload_n (i := 0) d_M_leave_12 rfl rfl ?_
        refine jx_getf d_M_leave_13 gf_M_35 hB rfl ?_
        refine jx_bipush (v := 62) d_M_leave_16 (by decide) ?_
        refine jx_iload_n (i := 1) d_M_leave_18 rfl rfl ?_
        refine jx_imul d_M_leave_19 ?_
        refine jx_iload_n (i := 2) d_M_leave_20 rfl rfl ?_
        refine jx_iadd d_M_leave_21 ?_
        refine jx_laldj d_M_leave_22 h9 (e62 _ _) (by omega) (by omega) ?_
        refine jx_aload_n (i := 0) d_M_leave_23 rfl rfl ?_
        refine jx_getf d_M_leave_24 gf_M_114 hB rfl ?_
        refine jx_aload_n (i := 0) d_M_leave_27 rfl rfl ?_
        refine jx_getf d_M_leave_28 gf_M_58 hB rfl ?_
        refine jx_i2l d_M_leave_31 ?_
        refine jx_lsub d_M_leave_32 ?_
        refine jx_l_ge (tgt := 43) d_M_leave_33 d_M_leave_34 (by decide) (fun c33 => ?_) (fun c33 => ?_)
        · rw [hmw, (g5 i (by omega)).1] at c33
          exact rest i (sp_ld_eq (by omega) (fun q hq => decide_eq_true (hP q hq)) (fun h => decide_eq_false (fun h9 => l_nle h9 c33)))
        · rw [hmw, (g5 i (by omega)).1] at c33
          refine jx_iinc d_M_leave_37 rfl (Nat.le_of_ble_eq_true rfl) (jx_e4_2 (by trivial)) ?_
          refine jx_goto (tgt := 2) d_M_leave_40 (by decide) ?_
          rw [nI_1]
          refine ih (i + 1) (by omega) (fun q hq => ?_)
          by_cases hqi : q = i
          · subst hqi
            exact l_gt c33
          · exact hP q (by omega)
  refine jx_iconst (v := 0) d_M_leave_0 (by decide) ?_
  refine jx_istore_n (i := 2) d_M_leave_1 rfl (Nat.le_of_ble_eq_true rfl) (jx_e4_2 (by trivial)) ?_
  exact loop (kd j).1 0 (by omega) (fun q hq => by omega)
end CM10
