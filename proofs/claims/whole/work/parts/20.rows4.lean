/-! PART 20: KeyRows: take, leaveBelow, the two looks, the constructor -/
theorem i_dec (i : Nat) : nI i + (-1) = nI i - 1 := by
  cases i with
  | zero => decide
  | succ j => rw [pk_m1, nI_pred]
section CR4
variable {G : jx_G} {d a ta va sa fl far nF sz n g : Nat} {nm t v : Int64} {wk : Int32} {tm vl ss : Nat → Int64} {fo : Nat → Nat} {fd : sp_fd} {M : jx_H} {Z : Option Value → jx_H → Nat → Prop}
theorem c_R_take {pl : Nat} {tm' vl' : Nat → Int64} (hd : 3 < d) (hn : n < 60) (hpl : pl = sp_ld (fun j => decide (tm j < t + 1)) n) (htm : tm' = sp_in tm n pl t) (hvl : vl' = sp_in vl n pl v) (h : kr_H M a ta va sa nm fl nF n wk tm vl ss) (hF : kf_Fs G M fl far nF fo fd) (k : ∀ M', kr_H M' a ta va sa nm fl nF (n + 1) (sp_ws (sp_c3 fd (n + 1) pl) wk nF) tm' vl' (sp_ut nF (sp_n3 fd tm' vl' ss (n + 1) pl) ss) → kr_F a ta va sa M M' → Z none M' sz) : jx_Cr md_R_take G d [.ref a, .long t, .long v] M sz 0 0 Z := by
  refine jx_ent rfl (Nat.le_of_ble_eq_true rfl) (l := [some (.ref a), some (.long t), none, some (.long v), none, none, none, none, none]) (by simp [jx_le, jx_eas, Value.category]) (fun hlt => ?_)
  have hnF := hF.2.1
  have hple : pl ≤ n := by rw [hpl]; exact sp_ld_le _ _
  have loop : ∀ (b : Bool), b = decide (pl = n) → ∀ (j f : Nat) (M1 : jx_H), f + j = nF → kr_H M1 a ta va sa nm fl nF (n + 1) (sp_ws (sp_c3 fd (n + 1) pl) wk f) tm' vl' (sp_ut f (sp_n3 fd tm' vl' ss (n + 1) pl) ss) → kr_F a ta va sa M M1 → jx_V md_R_take [] G (jx_rm d 0 0) (jx_Q1 G 0 0 Z) 48 [some (.ref a), some (.long t), none, some (.long v), none, some (.int (nI pl)), some (.int (kf_b b)), some (.int (nI f)), none] [] M1 sz 0 0 := by
    intro b hb j
    induction j with
    | zero =>
      intro f M1 hi h1 hf
      have hF1 := hF.to h hf
      obtain ⟨mo, hA⟩ := hF1.1.1
      refine jx_iload d_R_take_48 rfl ?_
      refine jx_aload_n (i := 0) d_R_take_50 rfl rfl ?_
      refine jx_getf d_R_take_51 gf_R_29 h1.1 rfl ?_
      refine jx_callV0 d_R_take_54 mv_R_50 hA rfl (jx_ok_rm (by omega) (Nat.le_of_ble_eq_true rfl)) (Nat.le_of_ble_eq_true rfl) (jx_rmc (by omega)) (jx_rms (by omega)) (c_L_size (d := 0) hF1.1 ?_)
      dsimp only [Option.toList, List.cons_append, List.nil_append]
      refine jx_icmp_ge (tgt := 158) d_R_take_57 (by decide) (fun c57 => ?_) (fun c57 => ?_)
      · exact jx_vret d_R_take_158 rfl (by omega) (by omega) (by
          have e : f = nF := by omega
          subst e
          exact k _ h1 hf)
      · exact absurd ((nI_leI (by omega) (by omega)).mpr (by omega)) c57
    | succ j ih =>
      intro f M1 hi h1 hf
      have hF1 := hF.to h hf
      have hfd := hF1.2.2 f (by omega)
      obtain ⟨mo, hA⟩ := hF1.1.1
      have hone : (decide (pl = n + 1 - 1) || sp_mj (nI (fd f).1)) = true → jx_V md_R_take [] G (jx_rm d 0 0) (jx_Q1 G 0 0 Z) 87 [some (.ref a), some (.long t), none, some (.long v), none, some (.int (nI pl)), some (.int (kf_b b)), some (.int (nI f)), some (.ref (fo f))] [] M1 sz 0 0 := by
        intro hor
        refine jx_aload_n (i := 0) d_R_take_87 rfl rfl ?_
        refine jx_getf d_R_take_88 gf_R_33 h1.1 rfl ?_
        refine jx_iload d_R_take_91 rfl ?_
        refine jx_aload_n (i := 0) d_R_take_93 rfl rfl ?_
        refine jx_iload d_R_take_94 rfl ?_
        refine jx_aload d_R_take_96 rfl ?_
        refine jx_aload_n (i := 0) d_R_take_98 rfl rfl ?_
        refine jx_getf d_R_take_99 gf_R_33 h1.1 rfl ?_
        refine jx_iload d_R_take_102 rfl ?_
        refine jx_lald (t0 := 1) d_R_take_104 h1.2.2.2.1 rfl (vp_in_nI (by omega) (by omega)) ?_
        rw [nI_clamp (by omega), sp_ut_f]
        refine jx_callV3 d_R_take_105 mv_R_66 h1.1 rfl (jx_ok_rm (by omega) (Nat.le_of_ble_eq_true rfl)) (Nat.le_of_ble_eq_true rfl) (jx_rmc (by omega)) (jx_rms (by omega)) (c_R_stepAt (d := 1) (by omega) h1.1 h1.2.1 h1.2.2.1 hfd.2 hfd.1 (by omega) ?_)
        dsimp only [Option.toList, List.cons_append, List.nil_append]
        have h2 := h1.us (sp_ut (f + 1) (sp_n3 fd tm' vl' ss (n + 1) pl) ss)
        have h3 := h2.ua (n + 1) (sp_ws (sp_c3 fd (n + 1) pl) wk f + 1)
        refine jx_last (t0 := 1) d_R_take_108 h1.2.2.2.1 rfl (vp_in_nI (by omega) (by omega)) ?_
        rw [nI_clamp (by omega), show sp_sa (fd f).1 (fd f).2.2.1 tm' vl' pl (ss f) = sp_n3 fd tm' vl' ss (n + 1) pl f by simp only [sp_n3]; rw [if_pos hor], sp_ut_s]
        refine jx_aload_n (i := 0) d_R_take_109 rfl rfl ?_
        refine jx_dup d_R_take_110 rfl ?_
        refine jx_getf d_R_take_111 gf_R_22 h2.1 rfl ?_
        refine jx_iconst (v := 1) d_R_take_114 (by decide) ?_
        refine jx_iadd d_R_take_115 ?_
        refine jx_putf d_R_take_116 pf_R_22 h2.1 (Nat.le_of_ble_eq_true rfl) rfl rfl ?_
        refine jx_goto (tgt := 152) d_R_take_119 (by decide) ?_
        refine jx_iinc d_R_take_152 rfl (Nat.le_of_ble_eq_true rfl) (jx_e9_7 (by trivial)) ?_
        refine jx_goto (tgt := 48) d_R_take_155 (by decide) ?_
        rw [nI_1]
        refine jx_wk (l' := [some (.ref a), some (.long t), none, some (.long v), none, some (.int (nI pl)), some (.int (kf_b b)), some (.int (nI (f + 1))), none]) (by simp [jx_le]) ?_
        refine ih (f + 1) _ (by omega) ?_ hf.us.ua
        rw [show sp_ws (sp_c3 fd (n + 1) pl) wk (f + 1) = sp_ws (sp_c3 fd (n + 1) pl) wk f + 1 by simp only [sp_ws, sp_c3]; rw [if_pos hor]]
        exact h3
      refine jx_iload d_R_take_48 rfl ?_
      refine jx_aload_n (i := 0) d_R_take_50 rfl rfl ?_
      refine jx_getf d_R_take_51 gf_R_29 h1.1 rfl ?_
      refine jx_callV0 d_R_take_54 mv_R_50 hA rfl (jx_ok_rm (by omega) (Nat.le_of_ble_eq_true rfl)) (Nat.le_of_ble_eq_true rfl) (jx_rmc (by omega)) (jx_rms (by omega)) (c_L_size (d := 0) hF1.1 ?_)
      dsimp only [Option.toList, List.cons_append, List.nil_append]
      refine jx_icmp_ge (tgt := 158) d_R_take_57 (by decide) (fun c57 => ?_) (fun c57 => ?_)
      · exact absurd ((nI_leI (by omega) (by omega)).mp c57) (by omega)
      · refine jx_aload_n (i := 0) d_R_take_60 rfl rfl ?_
        refine jx_getf d_R_take_61 gf_R_29 h1.1 rfl ?_
        refine jx_iload d_R_take_64 rfl ?_
        refine jx_callV1 d_R_take_66 mv_R_56 hA rfl (jx_ok_rm (by omega) (Nat.le_of_ble_eq_true rfl)) (Nat.le_of_ble_eq_true rfl) (jx_rmc (by omega)) (jx_rms (by omega)) (c_L_get (d := 2) (by omega) hF1.1 (by omega) ?_)
        dsimp only [Option.toList, List.cons_append, List.nil_append]
        refine jx_castn d_R_take_69 hfd.2 rfl nk_R_60 nx_F_KeyedFolds_Fold ?_
        refine jx_astore d_R_take_72 (Nat.le_of_ble_eq_true rfl) (jx_e9_8 (by trivial)) ?_
        refine jx_iload d_R_take_74 rfl ?_
        refine jx_if_ne (tgt := 87) d_R_take_76 (by decide) (fun c76 => ?_) (fun c76 => ?_)
        · exact hone (by
            cases hq : b with
            | true => rw [hq] at hb; rw [show n + 1 - 1 = n by omega, ← hb]; rfl
            | false => rw [hq] at c76; exact absurd rfl c76)
        · have hbf : b = false := (kf_b_eq0 b).mp c76
          refine jx_aload d_R_take_79 rfl ?_
          refine jx_callV0 d_R_take_81 mv_R_62 hfd.2 rfl (jx_ok_rm (by omega) (Nat.le_of_ble_eq_true rfl)) (Nat.le_of_ble_eq_true rfl) (jx_rmc (by omega)) (jx_rms (by omega)) (c_F_mayBeJoined (d := 1) (by omega) hfd.2 ?_)
          dsimp only [Option.toList, List.cons_append, List.nil_append]
          refine jx_if_eq (tgt := 122) d_R_take_84 (by decide) (fun c84 => ?_) (fun c84 => ?_)
          · rw [kf_b_eq0] at c84
            have hor : ¬ (decide (pl = n + 1 - 1) || sp_mj (nI (fd f).1)) = true := by
              rw [show n + 1 - 1 = n by omega, ← hb, hbf, c84]
              simp
            refine jx_aload_n (i := 0) d_R_take_122 rfl rfl ?_
            refine jx_getf d_R_take_123 gf_R_33 h1.1 rfl ?_
            refine jx_iload d_R_take_126 rfl ?_
            refine jx_aload_n (i := 0) d_R_take_128 rfl rfl ?_
            refine jx_aload_n (i := 0) d_R_take_129 rfl rfl ?_
            refine jx_getf d_R_take_130 gf_R_18 h1.1 rfl ?_
            refine jx_aload d_R_take_133 rfl ?_
            refine jx_callV2 d_R_take_135 mv_R_70 h1.1 rfl (jx_ok_rm (by omega) (Nat.le_of_ble_eq_true rfl)) (Nat.le_of_ble_eq_true rfl) (jx_rmc (by omega)) (jx_rms (by omega)) (c_R_stateOfFirst (d := 2) (by omega) h1.1 h1.2.1 h1.2.2.1 hfd.2 hfd.1 (by omega) (Nat.le_refl _) ?_)
            dsimp only [Option.toList, List.cons_append, List.nil_append]
            have h2 := h1.us (sp_ut (f + 1) (sp_n3 fd tm' vl' ss (n + 1) pl) ss)
            have h3 := h2.ua (n + 1) (sp_ws (sp_c3 fd (n + 1) pl) wk f + nI (n + 1))
            refine jx_last (t0 := 1) d_R_take_138 h1.2.2.2.1 rfl (vp_in_nI (by omega) (by omega)) ?_
            rw [nI_clamp (by omega), show sp_fo (fd f).1 (fd f).2.1 (fd f).2.2.1 tm' vl' (n + 1) = sp_n3 fd tm' vl' ss (n + 1) pl f by simp only [sp_n3]; rw [if_neg hor], sp_ut_s]
            refine jx_aload_n (i := 0) d_R_take_139 rfl rfl ?_
            refine jx_dup d_R_take_140 rfl ?_
            refine jx_getf d_R_take_141 gf_R_22 h2.1 rfl ?_
            refine jx_aload_n (i := 0) d_R_take_144 rfl rfl ?_
            refine jx_getf d_R_take_145 gf_R_18 h2.1 rfl ?_
            refine jx_iadd d_R_take_148 ?_
            refine jx_putf d_R_take_149 pf_R_22 h2.1 (Nat.le_of_ble_eq_true rfl) rfl rfl ?_
            refine jx_iinc d_R_take_152 rfl (Nat.le_of_ble_eq_true rfl) (jx_e9_7 (by trivial)) ?_
            refine jx_goto (tgt := 48) d_R_take_155 (by decide) ?_
            rw [nI_1]
            refine jx_wk (l' := [some (.ref a), some (.long t), none, some (.long v), none, some (.int (nI pl)), some (.int (kf_b b)), some (.int (nI (f + 1))), none]) (by simp [jx_le]) ?_
            refine ih (f + 1) _ (by omega) ?_ hf.us.ua
            rw [show sp_ws (sp_c3 fd (n + 1) pl) wk (f + 1) = sp_ws (sp_c3 fd (n + 1) pl) wk f + nI (n + 1) by simp only [sp_ws, sp_c3]; rw [if_neg hor]]
            exact h3
          · exact hone (by
              cases hq : sp_mj (nI (fd f).1) with
              | true => simp
              | false => rw [hq] at c84; exact absurd rfl c84)
  refine jx_aload_n (i := 0) d_R_take_0 rfl rfl ?_
  refine jx_getf d_R_take_1 gf_R_18 h.1 rfl ?_
  refine jx_bipush (v := 60) d_R_take_4 (by decide) ?_
  refine jx_icmp_lt (tgt := 10) d_R_take_6 (by decide) (fun c6 => ?_) (fun c6 => ?_)
  · refine jx_aload_n (i := 0) d_R_take_10 rfl rfl ?_
    refine jx_lload_n (i := 1) d_R_take_11 rfl rfl ?_
    refine jx_lconst (v := 1) d_R_take_12 (by decide) ?_
    refine jx_ladd d_R_take_13 ?_
    refine jx_callV1 d_R_take_14 mv_R_42 h.1 rfl (jx_ok_rm (by omega) (Nat.le_of_ble_eq_true rfl)) (Nat.le_of_ble_eq_true rfl) (jx_rmc (by omega)) (jx_rms (by omega)) (c_R_countBelow (d := 0) h.1 h.2.1 (by omega) ?_)
    dsimp only [Option.toList, List.cons_append, List.nil_append]
    rw [← hpl]
    refine jx_istore d_R_take_17 (Nat.le_of_ble_eq_true rfl) (jx_e9_5 (by trivial)) ?_
    refine jx_aload_n (i := 0) d_R_take_19 rfl rfl ?_
    refine jx_iload d_R_take_20 rfl ?_
    refine jx_lload_n (i := 1) d_R_take_22 rfl rfl ?_
    refine jx_lload_n (i := 3) d_R_take_23 rfl rfl ?_
    refine jx_callV3 d_R_take_24 mv_R_46 h.1 rfl (jx_ok_rm (by omega) (Nat.le_of_ble_eq_true rfl)) (Nat.le_of_ble_eq_true rfl) (jx_rmc (by omega)) (jx_rms (by omega)) (c_R_insert (d := 0) hple hn h ?_)
    dsimp only [Option.toList, List.cons_append, List.nil_append]
    intro M1 h1 hf
    rw [← htm, ← hvl] at h1
    try dsimp only [Option.toList, List.cons_append, List.nil_append]
    refine jx_iload d_R_take_27 rfl ?_
    refine jx_aload_n (i := 0) d_R_take_29 rfl rfl ?_
    refine jx_getf d_R_take_30 gf_R_18 h1.1 rfl ?_
    refine jx_iconst (v := 1) d_R_take_33 (by decide) ?_
    refine jx_isub d_R_take_34 ?_
    rw [nI_pred]
    refine jx_icmp_ne (tgt := 42) d_R_take_35 (by decide) (fun c35 => ?_) (fun c35 => ?_)
    · refine jx_iconst (v := 0) d_R_take_42 (by decide) ?_
      refine jx_istore d_R_take_43 (Nat.le_of_ble_eq_true rfl) (jx_e9_6 (by trivial)) ?_
      refine jx_iconst (v := 0) d_R_take_45 (by decide) ?_
      refine jx_istore d_R_take_46 (Nat.le_of_ble_eq_true rfl) (jx_e9_7 (by trivial)) ?_
      exact loop false (by rw [decide_eq_false (fun q => c35 (by rw [q]))]) nF 0 M1 (by omega) (by rw [sp_ut_0]; exact h1) hf
    · refine jx_iconst (v := 1) d_R_take_38 (by decide) ?_
      refine jx_goto (tgt := 43) d_R_take_39 (by decide) ?_
      refine jx_istore d_R_take_43 (Nat.le_of_ble_eq_true rfl) (jx_e9_6 (by trivial)) ?_
      refine jx_iconst (v := 0) d_R_take_45 (by decide) ?_
      refine jx_istore d_R_take_46 (Nat.le_of_ble_eq_true rfl) (jx_e9_7 (by trivial)) ?_
      exact loop true (by rw [decide_eq_true ((nI_eq (by omega) (by omega)).mp c35)]) nF 0 M1 (by omega) (by rw [sp_ut_0]; exact h1) hf
  · exact absurd (nI_lt (b := 60) hn (by omega)) c6
theorem c_R_leaveBelow (hd : 3 < d) (hn : n ≤ 60) (hg : g = sp_ld (fun j => decide (tm j < t)) n) (h : kr_H M a ta va sa nm fl nF n wk tm vl ss) (hF : kf_Fs G M fl far nF fo fd) (k0 : g = 0 → Z (some (.int (nI 0))) M sz)
    (k : 0 < g → ∀ M', kr_H M' a ta va sa nm fl nF (n - g) (sp_ws (sp_c2 fd (n - g)) (sp_ws (sp_c1 fd g) wk nF) nF) (sp_rm tm n g) (sp_rm vl n g) (sp_ut nF (sp_n2 fd (sp_rm tm n g) (sp_rm vl n g) (sp_ut nF (sp_n1 fd vl ss g) ss) (n - g)) (sp_ut nF (sp_n1 fd vl ss g) ss)) → kr_F a ta va sa M M' → Z (some (.int (nI g))) M' sz) : jx_Cr md_R_leaveBelow G d [.ref a, .long t] M sz 0 0 Z := by
  refine jx_ent rfl (Nat.le_of_ble_eq_true rfl) (l := [some (.ref a), some (.long t), none, none]) (by simp [jx_le, jx_eas, Value.category]) (fun hlt => ?_)
  have hgn : g ≤ n := by rw [hg]; exact sp_ld_le _ _
  refine jx_aload_n (i := 0) d_R_leaveBelow_0 rfl rfl ?_
  refine jx_lload_n (i := 1) d_R_leaveBelow_1 rfl rfl ?_
  refine jx_callV1 d_R_leaveBelow_2 mv_R_42 h.1 rfl (jx_ok_rm (by omega) (Nat.le_of_ble_eq_true rfl)) (Nat.le_of_ble_eq_true rfl) (jx_rmc (by omega)) (jx_rms (by omega)) (c_R_countBelow (d := 0) h.1 h.2.1 (by omega) ?_)
  dsimp only [Option.toList, List.cons_append, List.nil_append]
  rw [← hg]
  refine jx_istore_n (i := 3) d_R_leaveBelow_5 rfl (Nat.le_of_ble_eq_true rfl) (jx_e4_3 (by trivial)) ?_
  refine jx_iload_n (i := 3) d_R_leaveBelow_6 rfl rfl ?_
  refine jx_if_le (tgt := 24) d_R_leaveBelow_7 (by decide) (fun c7 => ?_) (fun c7 => ?_)
  · have e : g = 0 := by have := (nI_leI (b := 0) (by omega) (by omega)).mp c7; omega
    refine jx_iload_n (i := 3) d_R_leaveBelow_24 rfl rfl ?_
    exact jx_iret d_R_leaveBelow_25 rfl (by omega) (by omega) (by rw [e]; exact k0 e)
  · have e : 0 < g := by
      rcases Nat.eq_zero_or_pos g with q | q
      · exact absurd (by rw [q]; decide) c7
      · exact q
    refine jx_aload_n (i := 0) d_R_leaveBelow_10 rfl rfl ?_
    refine jx_iload_n (i := 3) d_R_leaveBelow_11 rfl rfl ?_
    refine jx_callV1 d_R_leaveBelow_12 mv_R_74 h.1 rfl (jx_ok_rm (by omega) (Nat.le_of_ble_eq_true rfl)) (Nat.le_of_ble_eq_true rfl) (jx_rmc (by omega)) (jx_rms (by omega)) (c_R_takeBackFirst (d := 3) (by omega) hgn hn h hF ?_)
    dsimp only [Option.toList, List.cons_append, List.nil_append]
    intro M1 h1 hf1
    try dsimp only [Option.toList, List.cons_append, List.nil_append]
    refine jx_aload_n (i := 0) d_R_leaveBelow_15 rfl rfl ?_
    refine jx_iload_n (i := 3) d_R_leaveBelow_16 rfl rfl ?_
    refine jx_callV1 d_R_leaveBelow_17 mv_R_78 h1.1 rfl (jx_ok_rm (by omega) (Nat.le_of_ble_eq_true rfl)) (Nat.le_of_ble_eq_true rfl) (jx_rmc (by omega)) (jx_rms (by omega)) (c_R_removeFirst (d := 0) e hgn hn h1 ?_)
    dsimp only [Option.toList, List.cons_append, List.nil_append]
    intro M2 h2 hf2
    try dsimp only [Option.toList, List.cons_append, List.nil_append]
    refine jx_aload_n (i := 0) d_R_leaveBelow_20 rfl rfl ?_
    refine jx_callV0 d_R_leaveBelow_21 mv_R_81 h2.1 rfl (jx_ok_rm (by omega) (Nat.le_of_ble_eq_true rfl)) (Nat.le_of_ble_eq_true rfl) (jx_rmc (by omega)) (jx_rms (by omega)) (c_R_foldTheOthersAnew (d := 3) (by omega) (by omega) h2 (hF.to h (hf1.tr hf2)) ?_)
    dsimp only [Option.toList, List.cons_append, List.nil_append]
    intro M3 h3 hf3
    try dsimp only [Option.toList, List.cons_append, List.nil_append]
    refine jx_iload_n (i := 3) d_R_leaveBelow_24 rfl rfl ?_
    exact jx_iret d_R_leaveBelow_25 rfl (by omega) (by omega) (k e _ h3 (hf1.tr (hf2.tr hf3)))
theorem c_R_folded (hd : 2 < d) (hn : n ≤ 60) (h : kr_H M a ta va sa nm fl nF n wk tm vl ss) (hF : kf_Fs G M fl far nF fo fd) (hs : ∀ f, f < nF → ss f = sp_fo (fd f).1 (fd f).2.1 (fd f).2.2.1 tm vl n) (k : Z (some (.int 1)) M sz) : jx_Cr md_R_statesAreThoseFoldedAnew G d [.ref a] M sz 0 0 Z := by
  refine jx_ent rfl (Nat.le_of_ble_eq_true rfl) (l := [some (.ref a), none]) (by simp [jx_le, jx_eas, Value.category]) (fun hlt => ?_)
  have hnF := hF.2.1
  obtain ⟨mo, hA⟩ := hF.1.1
  have loop : ∀ (j f : Nat), f + j = nF → jx_V md_R_statesAreThoseFoldedAnew [] G (jx_rm d 0 0) (jx_Q1 G 0 0 Z) 2 [some (.ref a), some (.int (nI f))] [] M sz 0 0 := by
    intro j
    induction j with
    | zero =>
      intro f hi
      refine jx_iload_n (i := 1) d_R_statesAreThoseFoldedAnew_2 rfl rfl ?_
      refine jx_aload_n (i := 0) d_R_statesAreThoseFoldedAnew_3 rfl rfl ?_
      refine jx_getf d_R_statesAreThoseFoldedAnew_4 gf_R_29 h.1 rfl ?_
      refine jx_callV0 d_R_statesAreThoseFoldedAnew_7 mv_R_50 hA rfl (jx_ok_rm (by omega) (Nat.le_of_ble_eq_true rfl)) (Nat.le_of_ble_eq_true rfl) (jx_rmc (by omega)) (jx_rms (by omega)) (c_L_size (d := 0) hF.1 ?_)
      dsimp only [Option.toList, List.cons_append, List.nil_append]
      refine jx_icmp_ge (tgt := 50) d_R_statesAreThoseFoldedAnew_10 (by decide) (fun c10 => ?_) (fun c10 => ?_)
      · refine jx_iconst (v := 1) d_R_statesAreThoseFoldedAnew_50 (by decide) ?_
        exact jx_zret d_R_statesAreThoseFoldedAnew_51 rfl (by first | exact Or.inl rfl | exact Or.inr rfl) (by omega) (by omega) k
      · exact absurd ((nI_leI (by omega) (by omega)).mpr (by omega)) c10
    | succ j ih =>
      intro f hi
      have hfd := hF.2.2 f (by omega)
      refine jx_iload_n (i := 1) d_R_statesAreThoseFoldedAnew_2 rfl rfl ?_
      refine jx_aload_n (i := 0) d_R_statesAreThoseFoldedAnew_3 rfl rfl ?_
      refine jx_getf d_R_statesAreThoseFoldedAnew_4 gf_R_29 h.1 rfl ?_
      refine jx_callV0 d_R_statesAreThoseFoldedAnew_7 mv_R_50 hA rfl (jx_ok_rm (by omega) (Nat.le_of_ble_eq_true rfl)) (Nat.le_of_ble_eq_true rfl) (jx_rmc (by omega)) (jx_rms (by omega)) (c_L_size (d := 0) hF.1 ?_)
      dsimp only [Option.toList, List.cons_append, List.nil_append]
      refine jx_icmp_ge (tgt := 50) d_R_statesAreThoseFoldedAnew_10 (by decide) (fun c10 => ?_) (fun c10 => ?_)
      · exact absurd ((nI_leI (by omega) (by omega)).mp c10) (by omega)
      · refine jx_aload_n (i := 0) d_R_statesAreThoseFoldedAnew_13 rfl rfl ?_
        refine jx_getf d_R_statesAreThoseFoldedAnew_14 gf_R_33 h.1 rfl ?_
        refine jx_iload_n (i := 1) d_R_statesAreThoseFoldedAnew_17 rfl rfl ?_
        refine jx_lald (t0 := 1) d_R_statesAreThoseFoldedAnew_18 h.2.2.2.1 rfl (vp_in_nI (by omega) (by omega)) ?_
        rw [nI_clamp (by omega), hs f (by omega)]
        refine jx_aload_n (i := 0) d_R_statesAreThoseFoldedAnew_19 rfl rfl ?_
        refine jx_aload_n (i := 0) d_R_statesAreThoseFoldedAnew_20 rfl rfl ?_
        refine jx_getf d_R_statesAreThoseFoldedAnew_21 gf_R_18 h.1 rfl ?_
        refine jx_aload_n (i := 0) d_R_statesAreThoseFoldedAnew_24 rfl rfl ?_
        refine jx_getf d_R_statesAreThoseFoldedAnew_25 gf_R_29 h.1 rfl ?_
        refine jx_iload_n (i := 1) d_R_statesAreThoseFoldedAnew_28 rfl rfl ?_
        refine jx_callV1 d_R_statesAreThoseFoldedAnew_29 mv_R_56 hA rfl (jx_ok_rm (by omega) (Nat.le_of_ble_eq_true rfl)) (Nat.le_of_ble_eq_true rfl) (jx_rmc (by omega)) (jx_rms (by omega)) (c_L_get (d := 2) (by omega) hF.1 (by omega) ?_)
        dsimp only [Option.toList, List.cons_append, List.nil_append]
        refine jx_castn d_R_statesAreThoseFoldedAnew_32 hfd.2 rfl nk_R_60 nx_F_KeyedFolds_Fold ?_
        refine jx_callV2 d_R_statesAreThoseFoldedAnew_35 mv_R_70 h.1 rfl (jx_ok_rm (by omega) (Nat.le_of_ble_eq_true rfl)) (Nat.le_of_ble_eq_true rfl) (jx_rmc (by omega)) (jx_rms (by omega)) (c_R_stateOfFirst (d := 2) (by omega) h.1 h.2.1 h.2.2.1 hfd.2 hfd.1 hn (Nat.le_refl _) ?_)
        dsimp only [Option.toList, List.cons_append, List.nil_append]
        refine jx_l_eq (tgt := 44) d_R_statesAreThoseFoldedAnew_38 d_R_statesAreThoseFoldedAnew_39 (by decide) (fun c38 => ?_) (fun c38 => ?_)
        · refine jx_iinc d_R_statesAreThoseFoldedAnew_44 rfl (Nat.le_of_ble_eq_true rfl) (jx_e2_1 (by trivial)) ?_
          refine jx_goto (tgt := 2) d_R_statesAreThoseFoldedAnew_47 (by decide) ?_
          rw [nI_1]
          exact ih (f + 1) (by omega)
        · exact absurd rfl c38
  refine jx_iconst (v := 0) d_R_statesAreThoseFoldedAnew_0 (by decide) ?_
  refine jx_istore_n (i := 1) d_R_statesAreThoseFoldedAnew_1 rfl (Nat.le_of_ble_eq_true rfl) (jx_e2_1 (by trivial)) ?_
  exact loop nF 0 (by omega)
theorem c_R_back {f : Nat} (hd : 2 < d) (hn : n ≤ 60) (hf : f < nF) (h : kr_H M a ta va sa nm fl nF n wk tm vl ss) (hF : kf_Fs G M fl far nF fo fd) (k : Z (some (.int (kf_b (sp_bw (fd f).1 (fd f).2.2.1 tm vl n (fd f).2.1 == ss f)))) M sz) : jx_Cr md_R_stateIsThatFoldedBackwards G d [.ref a, .int (nI f)] M sz 0 0 Z := by
  refine jx_ent rfl (Nat.le_of_ble_eq_true rfl) (l := [some (.ref a), some (.int (nI f)), none, none, none, none]) (by simp [jx_le, jx_eas, Value.category]) (fun hlt => ?_)
  have hnF := hF.2.1
  obtain ⟨mo, hA⟩ := hF.1.1
  have hfd := hF.2.2 f hf
  have loop : ∀ (i : Nat) (s : Int64), i ≤ n → sp_bw (fd f).1 (fd f).2.2.1 tm vl i s = sp_bw (fd f).1 (fd f).2.2.1 tm vl n (fd f).2.1 → jx_V md_R_stateIsThatFoldedBackwards [] G (jx_rm d 0 0) (jx_Q1 G 0 0 Z) 25 [some (.ref a), some (.int (nI f)), some (.ref (fo f)), some (.long s), none, some (.int (nI i - 1))] [] M sz 0 0 := by
    intro i
    induction i with
    | zero =>
      intro s hi hs
      refine jx_iload d_R_stateIsThatFoldedBackwards_25 rfl ?_
      refine jx_if_lt (tgt := 45) d_R_stateIsThatFoldedBackwards_27 (by decide) (fun c27 => ?_) (fun c27 => ?_)
      · refine jx_lload_n (i := 3) d_R_stateIsThatFoldedBackwards_45 rfl rfl ?_
        refine jx_aload_n (i := 0) d_R_stateIsThatFoldedBackwards_46 rfl rfl ?_
        refine jx_getf d_R_stateIsThatFoldedBackwards_47 gf_R_33 h.1 rfl ?_
        refine jx_iload_n (i := 1) d_R_stateIsThatFoldedBackwards_50 rfl rfl ?_
        refine jx_lald (t0 := 1) d_R_stateIsThatFoldedBackwards_51 h.2.2.2.1 rfl (vp_in_nI (by omega) (by omega)) ?_
        refine jx_l_ne (tgt := 60) d_R_stateIsThatFoldedBackwards_52 d_R_stateIsThatFoldedBackwards_53 (by decide) (fun c52 => ?_) (fun c52 => ?_)
        · refine jx_iconst (v := 0) d_R_stateIsThatFoldedBackwards_60 (by decide) ?_
          exact jx_zret d_R_stateIsThatFoldedBackwards_61 rfl (by first | exact Or.inl rfl | exact Or.inr rfl) (by omega) (by omega) (by
            rw [nI_clamp (by omega)] at c52
            rw [← hs] at k
            rw [show (sp_bw (fd f).1 (fd f).2.2.1 tm vl 0 s == ss f) = false from by simpa [sp_bw] using c52] at k
            exact k)
        · refine jx_iconst (v := 1) d_R_stateIsThatFoldedBackwards_56 (by decide) ?_
          refine jx_goto (tgt := 61) d_R_stateIsThatFoldedBackwards_57 (by decide) ?_
          exact jx_zret d_R_stateIsThatFoldedBackwards_61 rfl (by first | exact Or.inl rfl | exact Or.inr rfl) (by omega) (by omega) (by
            rw [nI_clamp (by omega)] at c52
            rw [← hs] at k
            rw [show (sp_bw (fd f).1 (fd f).2.2.1 tm vl 0 s == ss f) = true from by simpa [sp_bw] using c52] at k
            exact k)
      · exact absurd (by decide) c27
    | succ i ih =>
      intro s hi hs
      rw [nI_pred]
      refine jx_iload d_R_stateIsThatFoldedBackwards_25 rfl ?_
      refine jx_if_lt (tgt := 45) d_R_stateIsThatFoldedBackwards_27 (by decide) (fun c27 => ?_) (fun c27 => ?_)
      · exact absurd c27 (nI_pos (by omega))
      · refine jx_aload_n (i := 0) d_R_stateIsThatFoldedBackwards_30 rfl rfl ?_
        refine jx_iload d_R_stateIsThatFoldedBackwards_31 rfl ?_
        refine jx_aload_n (i := 2) d_R_stateIsThatFoldedBackwards_33 rfl rfl ?_
        refine jx_lload_n (i := 3) d_R_stateIsThatFoldedBackwards_34 rfl rfl ?_
        refine jx_callV3 d_R_stateIsThatFoldedBackwards_35 mv_R_66 h.1 rfl (jx_ok_rm (by omega) (Nat.le_of_ble_eq_true rfl)) (Nat.le_of_ble_eq_true rfl) (jx_rmc (by omega)) (jx_rms (by omega)) (c_R_stepAt (d := 1) (by omega) h.1 h.2.1 h.2.2.1 hfd.2 hfd.1 (by omega) ?_)
        dsimp only [Option.toList, List.cons_append, List.nil_append]
        refine jx_lstore_n (i := 3) d_R_stateIsThatFoldedBackwards_38 rfl (Nat.le_of_ble_eq_true rfl) (jx_f6_3 (by trivial)) ?_
        refine jx_iincM d_R_stateIsThatFoldedBackwards_39 rfl (Nat.le_of_ble_eq_true rfl) (jx_e6_5 (by trivial)) ?_
        refine jx_goto (tgt := 25) d_R_stateIsThatFoldedBackwards_42 (by decide) ?_
        rw [i_dec]
        exact ih _ (by omega) hs
  refine jx_aload_n (i := 0) d_R_stateIsThatFoldedBackwards_0 rfl rfl ?_
  refine jx_getf d_R_stateIsThatFoldedBackwards_1 gf_R_29 h.1 rfl ?_
  refine jx_iload_n (i := 1) d_R_stateIsThatFoldedBackwards_4 rfl rfl ?_
  refine jx_callV1 d_R_stateIsThatFoldedBackwards_5 mv_R_56 hA rfl (jx_ok_rm (by omega) (Nat.le_of_ble_eq_true rfl)) (Nat.le_of_ble_eq_true rfl) (jx_rmc (by omega)) (jx_rms (by omega)) (c_L_get (d := 2) (by omega) hF.1 hf ?_)
  dsimp only [Option.toList, List.cons_append, List.nil_append]
  refine jx_castn d_R_stateIsThatFoldedBackwards_8 hfd.2 rfl nk_R_60 nx_F_KeyedFolds_Fold ?_
  refine jx_astore_n (i := 2) d_R_stateIsThatFoldedBackwards_11 rfl (Nat.le_of_ble_eq_true rfl) (jx_e6_2 (by trivial)) ?_
  refine jx_aload_n (i := 2) d_R_stateIsThatFoldedBackwards_12 rfl rfl ?_
  refine jx_getf d_R_stateIsThatFoldedBackwards_13 gf_R_84 hfd.2 rfl ?_
  refine jx_lstore_n (i := 3) d_R_stateIsThatFoldedBackwards_16 rfl (Nat.le_of_ble_eq_true rfl) (jx_f6_3 (by trivial)) ?_
  refine jx_aload_n (i := 0) d_R_stateIsThatFoldedBackwards_17 rfl rfl ?_
  refine jx_getf d_R_stateIsThatFoldedBackwards_18 gf_R_18 h.1 rfl ?_
  refine jx_iconst (v := 1) d_R_stateIsThatFoldedBackwards_21 (by decide) ?_
  refine jx_isub d_R_stateIsThatFoldedBackwards_22 ?_
  refine jx_istore d_R_stateIsThatFoldedBackwards_23 (Nat.le_of_ble_eq_true rfl) (jx_e6_5 (by trivial)) ?_
  exact loop n _ (Nat.le_refl _) rfl
theorem c_R_init (h : M a = some (.inl (1, [.long 0, .null, .null, .null, .int 0, .int 0, .null]))) (hs : M sa = some (kf_la nF ss)) (k : ∀ M', kr_H M' a sz (sz + 1) sa nm fl nF 0 0 (fun _ => 0) (fun _ => 0) ss → (∀ q, q ≠ a → q < sz → M' q = M q) → (∀ q e, M' q = some e → q < sz + 2) → Z none M' (sz + 2)) : jx_Cr md_R_init G d [.ref a, .long nm, .ref fl, .ref sa] M sz 2 120 Z := by
  refine jx_ent rfl (Nat.le_of_ble_eq_true rfl) (l := [some (.ref a), some (.long nm), none, some (.ref fl), some (.ref sa)]) (by simp [jx_le, jx_eas, Value.category]) (fun hlt => ?_)
  have hne : a ≠ sz := Nat.ne_of_lt (hlt a _ h)
  have hlt' := hlt a _ h
  have hne1 : a ≠ sz + 1 := by omega
  have hsa := hlt sa _ hs
  have hsaa : sa ≠ a := by
    intro q
    rw [q, h] at hs
    simp at hs
  refine jx_aload_n (i := 0) d_R_init_0 rfl rfl ?_
  refine jx_objInit d_R_init_1 mo_R_3 (Nat.succ_le_succ (Nat.zero_le _)) (jx_rml (Nat.le_of_ble_eq_true rfl)) ?_
  refine jx_aload_n (i := 0) d_R_init_4 rfl rfl ?_
  refine jx_bipush (v := 60) d_R_init_5 (by decide) ?_
  refine jx_newa (N := 60) (ak := 51) (t0 := 1) (a0 := (60, .inr (.inl fun _ => 0))) d_R_init_7 rfl na_long rfl (fun _ => rfl) (by decide) (by decide) (by decide) (jx_rmc (by omega)) (jx_rms (by omega)) (fun hno => ?_)
  refine jx_putf d_R_init_9 pf_R_9 ((jx_up_n _ _ hne).trans h) (Nat.le_of_ble_eq_true rfl) rfl rfl ?_
  refine jx_aload_n (i := 0) d_R_init_12 rfl rfl ?_
  refine jx_bipush (v := 60) d_R_init_13 (by decide) ?_
  refine jx_newa (N := 60) (ak := 51) (t0 := 1) (a0 := (60, .inr (.inl fun _ => 0))) d_R_init_15 rfl na_long rfl (fun _ => rfl) (by decide) (by decide) (by decide) (jx_rmc (by omega)) (jx_rms (by omega)) (fun hno => ?_)
  refine jx_putf d_R_init_17 pf_R_15 ((jx_up_n _ _ hne1).trans (jx_up_s _ _ _)) (Nat.le_of_ble_eq_true rfl) rfl rfl ?_
  refine jx_aload_n (i := 0) d_R_init_20 rfl rfl ?_
  refine jx_iconst (v := 0) d_R_init_21 (by decide) ?_
  refine jx_putf d_R_init_22 pf_R_18 (jx_up_s _ _ _) (Nat.le_of_ble_eq_true rfl) rfl rfl ?_
  refine jx_aload_n (i := 0) d_R_init_25 rfl rfl ?_
  refine jx_iconst (v := 0) d_R_init_26 (by decide) ?_
  refine jx_putf d_R_init_27 pf_R_22 (jx_up_s _ _ _) (Nat.le_of_ble_eq_true rfl) rfl rfl ?_
  refine jx_aload_n (i := 0) d_R_init_30 rfl rfl ?_
  refine jx_lload_n (i := 1) d_R_init_31 rfl rfl ?_
  refine jx_putf d_R_init_32 pf_R_25 (jx_up_s _ _ _) (Nat.le_of_ble_eq_true rfl) rfl rfl ?_
  refine jx_aload_n (i := 0) d_R_init_35 rfl rfl ?_
  refine jx_aload_n (i := 3) d_R_init_36 rfl rfl ?_
  refine jx_putf d_R_init_37 pf_R_29 (jx_up_s _ _ _) (Nat.le_of_ble_eq_true rfl) rfl rfl ?_
  refine jx_aload_n (i := 0) d_R_init_40 rfl rfl ?_
  refine jx_aload d_R_init_41 rfl ?_
  refine jx_putf d_R_init_43 pf_R_33 (jx_up_s _ _ _) (Nat.le_of_ble_eq_true rfl) rfl rfl ?_
  exact jx_vret d_R_init_46 rfl (by omega) (by omega) (by
    simp only [jx_up_u]
    rw [jx_up_c _ _ _ hne1, jx_up_u]
    refine k _ ⟨jx_up_s _ _ _, ?_, ?_, ?_, by omega, by omega, by omega⟩ ?_ ?_
    · rw [jx_up_n _ _ (Ne.symm hne), jx_up_n _ _ (by omega), jx_up_s]
    · rw [jx_up_n _ _ (Ne.symm hne1), jx_up_s]
    · rw [jx_up_n _ _ hsaa, jx_up_n _ _ (by omega), jx_up_n _ _ (by omega)]
      exact hs
    · intro q q1 q2
      rw [jx_up_n _ _ q1, jx_up_n _ _ (by omega), jx_up_n _ _ (by omega)]
    · intro q e hq
      by_cases q1 : q = a
      · omega
      · rw [jx_up_n _ _ q1] at hq
        by_cases q2 : q = sz + 1
        · omega
        · rw [jx_up_n _ _ q2] at hq
          by_cases q3 : q = sz
          · omega
          · rw [jx_up_n _ _ q3] at hq
            have := hlt q e hq
            omega)
end CR4
