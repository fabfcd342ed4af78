/-! PART 39: the reference: foldOf, isDouble, putAside; what is read -/
section CM3
variable {G : jx_G} {d b nF nK sz nS nA nO : Nat} {la wi en pe cd lr fr tk lc db fc le x x2 : Int32} {gt lt t v key s0 t0 bf bd : Int64} {nm : Nat → Int64} {kd : Nat → sp_key} {fd : sp_fd} {fw : Nat → Nat → Int64} {sn ac oc : Nat → Int64} {M : jx_H} {Z : Option Value → jx_H → Nat → Prop}
theorem sp_fb_congr {kn : Nat} {st p bd : Int64} {tm vl tm' vl' : Nat → Int64} : ∀ {n : Nat}, (∀ i, i < n → tm i = tm' i ∧ vl i = vl' i) → sp_fb kn st p tm vl bd n = sp_fb kn st p tm' vl' bd n
  | 0, _ => rfl
  | n + 1, h => by
    have ih := sp_fb_congr (kn := kn) (st := st) (p := p) (bd := bd) (n := n) (tm := tm) (vl := vl) (tm' := tm') (vl' := vl') (fun i hi => h i (by omega))
    simp only [sp_fb, sp_sa, ih, (h n (by omega)).1, (h n (by omega)).2]
    by_cases h0 : n = 0
    · simp [h0]
    · simp only [h0, if_false, (h (n - 1) (by omega)).1]
theorem c_M_foldOf {j f : Nat} (hd : 0 < d) (hj : j < nK) (hf : f < nF) (hN : mW M b la wi en pe cd lr fr gt lt tk lc db fc le nF fd fw nK nm kd nS sn nA ac nO oc) (k : Z (some (.long (sp_fb (fd f).1 (fd f).2.1 (fd f).2.2.1 (kd j).2.2.1 (kd j).2.2.2.1 bd (kd j).1))) M sz) : jx_Cr md_M_foldOf G d [.ref b, .int (nI j), .int (nI f), .long bd] M sz 0 0 Z := by
  refine jx_ent rfl (Nat.le_of_ble_eq_true rfl) (l := [some (.ref b), some (.int (nI j)), some (.int (nI f)), some (.long bd), none, none, none, none, none]) (by simp [jx_le, jx_eas, Value.category]) (fun hlt => ?_)
  obtain ⟨mk, ki, st, nu, fa, fl, nn, si, wo, ti, va, so, hmk, hB, ⟨h1, h2, h3, h4, h5, h6, h7, h8, h9, h10, h11, h12, h13⟩, hF, hK, hS5, hS⟩ := id hN
  have hnF := hF.1
  have hnK := hK.1
  obtain ⟨f1, f2, f3, f4, f5, f6⟩ := hF.2.1 f hf
  obtain ⟨g1, g2, g3, g4, g5⟩ := hK.2.1 j hj
  rw [← sp_fb_congr (tm := fun i => ti (62 * j + i)) (vl := fun i => va (62 * j + i)) (fun i hi => g5 i hi)] at k
  have loop : ∀ (r i : Nat), i + r = (kd j).1 → jx_V md_M_foldOf [] G (jx_rm d 0 0) (jx_Q1 G 0 0 Z) 11 [some (.ref b), some (.int (nI j)), some (.int (nI f)), some (.long bd), none, some (.long (sp_fb (fd f).1 (fd f).2.1 (fd f).2.2.1 (fun i => ti (62 * j + i)) (fun i => va (62 * j + i)) bd i)), none, some (.int (nI i)), none] [] M sz 0 0 := by
    intro r
    induction r with
    | zero =>
      intro i hi
      refine jx_iload d_M_foldOf_11 rfl ?_
      refine jx_aload_n (i := 0) d_M_foldOf_13 rfl rfl ?_
      refine jx_getf d_M_foldOf_14 gf_M_29 hB rfl ?_
      refine jx_iload_n (i := 1) d_M_foldOf_17 rfl rfl ?_
      refine jx_ialdj d_M_foldOf_18 h7 rfl (by omega) (by omega) ?_
      refine jx_icmp_ge (tgt := 100) d_M_foldOf_19 (by decide) (fun c19 => ?_) (fun c19 => ?_)
      · refine jx_lload d_M_foldOf_100 rfl ?_
        exact jx_lret d_M_foldOf_102 rfl (by omega) (by omega) (by rw [show (kd j).1 = i by omega] at k; exact k)
      · rw [g3] at c19
        exact absurd ((nI_leI (by omega) (by omega)).mpr (by omega)) c19
    | succ r ih =>
      intro i hi
      refine jx_iload d_M_foldOf_11 rfl ?_
      refine jx_aload_n (i := 0) d_M_foldOf_13 rfl rfl ?_
      refine jx_getf d_M_foldOf_14 gf_M_29 hB rfl ?_
      refine jx_iload_n (i := 1) d_M_foldOf_17 rfl rfl ?_
      refine jx_ialdj d_M_foldOf_18 h7 rfl (by omega) (by omega) ?_
      refine jx_icmp_ge (tgt := 100) d_M_foldOf_19 (by decide) (fun c19 => ?_) (fun c19 => ?_)
      · rw [g3] at c19
        exact absurd ((nI_leI (by omega) (by omega)).mp c19) (by omega)
      · have nx := ih (i + 1) (by omega)
        refine jx_bipush (v := 62) d_M_foldOf_22 (by decide) ?_
        refine jx_iload_n (i := 1) d_M_foldOf_24 rfl rfl ?_
        refine jx_imul d_M_foldOf_25 ?_
        refine jx_iload d_M_foldOf_26 rfl ?_
        refine jx_iadd d_M_foldOf_28 ?_
        refine jx_istore d_M_foldOf_29 (Nat.le_of_ble_eq_true rfl) (jx_e9_8 (by trivial)) ?_
        refine jx_aload_n (i := 0) d_M_foldOf_31 rfl rfl ?_
        refine jx_getf d_M_foldOf_32 gf_M_35 hB rfl ?_
        refine jx_iload d_M_foldOf_35 rfl ?_
        refine jx_laldj d_M_foldOf_37 h9 (e62 _ _) (by omega) (by omega) ?_
        refine jx_lload_n (i := 3) d_M_foldOf_38 rfl rfl ?_
        refine jx_l_ge (tgt := 94) d_M_foldOf_39 d_M_foldOf_40 (by decide) (fun c39 => ?_) (fun c39 => ?_)
        · refine jx_iinc d_M_foldOf_94 rfl (Nat.le_of_ble_eq_true rfl) (jx_e9_7 (by trivial)) ?_
          refine jx_goto (tgt := 11) d_M_foldOf_97 (by decide) ?_
          refine jx_wk (l' := [some (.ref b), some (.int (nI j)), some (.int (nI f)), some (.long bd), none, some (.long (sp_fb (fd f).1 (fd f).2.1 (fd f).2.2.1 (fun i => ti (62 * j + i)) (fun i => va (62 * j + i)) bd i)), none, some (.int (nI (i + 1))), none]) (by simp [jx_le, nI_1]) ?_
          rw [sp_fb, if_neg (fun h => l_nle h c39)] at nx
          exact nx
        · have hlt9 : ti (62 * j + i) < bd := l_gt c39
          rw [sp_fb, if_pos hlt9] at nx
          refine jx_aload_n (i := 0) d_M_foldOf_43 rfl rfl ?_
          refine jx_iload_n (i := 2) d_M_foldOf_44 rfl rfl ?_
          refine jx_lload d_M_foldOf_45 rfl ?_
          refine jx_aload_n (i := 0) d_M_foldOf_47 rfl rfl ?_
          refine jx_getf d_M_foldOf_48 gf_M_35 hB rfl ?_
          refine jx_iload d_M_foldOf_51 rfl ?_
          refine jx_laldj d_M_foldOf_53 h9 (e62 _ _) (by omega) (by omega) ?_
          refine jx_aload_n (i := 0) d_M_foldOf_54 rfl rfl ?_
          refine jx_getf d_M_foldOf_55 gf_M_38 hB rfl ?_
          refine jx_iload d_M_foldOf_58 rfl ?_
          refine jx_laldj d_M_foldOf_60 h10 (e62 _ _) (by omega) (by omega) ?_
          refine jx_iload d_M_foldOf_61 rfl ?_
          refine jx_if_ne (tgt := 70) d_M_foldOf_63 (by decide) (fun c63 => ?_) (fun c63 => ?_)
          · have hi0 : i ≠ 0 := fun h => c63 (by rw [h]; rfl)
            refine jx_iconst (v := 0) d_M_foldOf_70 (by decide) ?_
            refine jx_iload d_M_foldOf_71 rfl ?_
            refine jx_if_ne (tgt := 80) d_M_foldOf_73 (by decide) (fun c73 => ?_) (fun c73 => ?_)
            · refine jx_aload_n (i := 0) d_M_foldOf_80 rfl rfl ?_
              refine jx_getf d_M_foldOf_81 gf_M_35 hB rfl ?_
              refine jx_iload d_M_foldOf_84 rfl ?_
              refine jx_iconst (v := 1) d_M_foldOf_86 (by decide) ?_
              refine jx_isub d_M_foldOf_87 ?_
              refine jx_laldj d_M_foldOf_88 h9 (show (62 : Int32) * nI j + nI i - 1 = nI (62 * j + i - 1) by rw [e62, show (62 * j + i) = (62 * j + i - 1) + 1 by omega, nI_pred]; rfl) (by omega) (by omega) ?_
              rw [show (0 : Int32) = kf_b false from rfl]
              refine jx_callV6 d_M_foldOf_89 mv_M_97 hB rfl (jx_ok_rm (by omega) (Nat.le_of_ble_eq_true rfl)) (Nat.le_of_ble_eq_true rfl) (jx_rmc (by omega)) (jx_rms (by omega)) (c_M_step (d := 0) hf hN ?_)
              dsimp only [Option.toList, List.cons_append, List.nil_append]
              refine jx_lstore d_M_foldOf_92 (Nat.le_of_ble_eq_true rfl) (jx_f9_5 (by trivial)) ?_
              refine jx_iinc d_M_foldOf_94 rfl (Nat.le_of_ble_eq_true rfl) (jx_e9_7 (by trivial)) ?_
              refine jx_goto (tgt := 11) d_M_foldOf_97 (by decide) ?_
              refine jx_wk (l' := [some (.ref b), some (.int (nI j)), some (.int (nI f)), some (.long bd), none, some (.long (sp_sa (fd f).1 (fd f).2.2.1 (fun i => ti (62 * j + i)) (fun i => va (62 * j + i)) i (sp_fb (fd f).1 (fd f).2.1 (fd f).2.2.1 (fun i => ti (62 * j + i)) (fun i => va (62 * j + i)) bd i))), none, some (.int (nI (i + 1))), none]) ?_ nx
              rw [sp_sa, if_neg hi0, decide_eq_false hi0]
              simp [jx_le, nI_1, show 62 * j + i - 1 = 62 * j + (i - 1) by omega]
            · exact absurd c73 c63
          · have hi0 : i = 0 := (nI_eq (b := 0) (by omega) (by omega)).mp c63
            refine jx_iconst (v := 1) d_M_foldOf_66 (by decide) ?_
            refine jx_goto (tgt := 71) d_M_foldOf_67 (by decide) ?_
            refine jx_iload d_M_foldOf_71 rfl ?_
            refine jx_if_ne (tgt := 80) d_M_foldOf_73 (by decide) (fun c73 => ?_) (fun c73 => ?_)
            · exact absurd c63 c73
            · rw [show (1 : Int32) = kf_b true from rfl]
              refine jx_lconst (v := 0) d_M_foldOf_76 (by decide) ?_
              refine jx_goto (tgt := 89) d_M_foldOf_77 (by decide) ?_
              refine jx_callV6 d_M_foldOf_89 mv_M_97 hB rfl (jx_ok_rm (by omega) (Nat.le_of_ble_eq_true rfl)) (Nat.le_of_ble_eq_true rfl) (jx_rmc (by omega)) (jx_rms (by omega)) (c_M_step (d := 0) hf hN ?_)
              dsimp only [Option.toList, List.cons_append, List.nil_append]
              refine jx_lstore d_M_foldOf_92 (Nat.le_of_ble_eq_true rfl) (jx_f9_5 (by trivial)) ?_
              refine jx_iinc d_M_foldOf_94 rfl (Nat.le_of_ble_eq_true rfl) (jx_e9_7 (by trivial)) ?_
              refine jx_goto (tgt := 11) d_M_foldOf_97 (by decide) ?_
              refine jx_wk (l' := [some (.ref b), some (.int (nI j)), some (.int (nI f)), some (.long bd), none, some (.long (sp_sa (fd f).1 (fd f).2.2.1 (fun i => ti (62 * j + i)) (fun i => va (62 * j + i)) i (sp_fb (fd f).1 (fd f).2.1 (fd f).2.2.1 (fun i => ti (62 * j + i)) (fun i => va (62 * j + i)) bd i))), none, some (.int (nI (i + 1))), none]) ?_ nx
              rw [sp_sa, if_pos hi0, decide_eq_true hi0]
              simp [jx_le, nI_1]
  refine jx_aload_n (i := 0) d_M_foldOf_0 rfl rfl ?_
  refine jx_getf d_M_foldOf_1 gf_M_13 hB rfl ?_
  refine jx_iload_n (i := 2) d_M_foldOf_4 rfl rfl ?_
  refine jx_laldj d_M_foldOf_5 h2 rfl (by omega) (by omega) ?_
  refine jx_lstore d_M_foldOf_6 (Nat.le_of_ble_eq_true rfl) (jx_f9_5 (by trivial)) ?_
  refine jx_iconst (v := 0) d_M_foldOf_8 (by decide) ?_
  refine jx_istore d_M_foldOf_9 (Nat.le_of_ble_eq_true rfl) (jx_e9_7 (by trivial)) ?_
  rw [f4]
  exact loop (kd j).1 0 (by omega)
end CM3
