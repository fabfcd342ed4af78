/-! PART 46: the reference: tell, leave -/
section CM9
variable {G : jx_G} {d b nF nK sz nS nA nO : Nat} {la wi en pe cd lr fr tk lc db fc le x x2 cs : Int32} {gt lt t v key s0 p0 m : Int64} {nm : Nat → Int64} {kd : Nat → sp_key} {fd : sp_fd} {fw : Nat → Nat → Int64} {sn ac oc : Nat → Int64} {M : jx_H} {Z : Option Value → jx_H → Nat → Prop}
theorem c_M_tell {j : Nat} (hd : 1 < d) (hj : j < nK) (hnO : nO < 2 ^ 28) (hN : mW M b la wi en pe cd lr fr gt lt tk lc db fc le nF fd fw nK nm kd nS sn nA ac nO oc) (k : ∀ M', mW M' b la wi en pe cd lr fr gt lt tk lc db fc le nF fd fw nK nm kd nS sn nA ac (nO + 1) (sp_ou oc nO m (nm j) (fun f => sp_fb (fd f).1 (fd f).2.1 (fd f).2.2.1 (kd j).2.2.1 (kd j).2.2.2.1 m (kd j).1) nF) → mFr b M M' → Z none M' sz) : jx_Cr md_M_tell G d [.ref b, .int (nI j), .long m] M sz 0 0 Z := by
  refine jx_ent rfl (Nat.le_of_ble_eq_true rfl) (l := [some (.ref b), some (.int (nI j)), some (.long m), none, none]) (by simp [jx_le, jx_eas, Value.category]) (fun hlt => ?_)
  obtain ⟨mk, ki, st, nu, fa, fl, nn, si, wo, ti, va, so, hmk, hB, hO, hF, hK, hS5, hS⟩ := id hN
  obtain ⟨h1, h2, h3, h4, h5, h6, h7, h8, h9, h10, h11, h12, h13⟩ := id hO
  have hnF := hF.1
  have hnK := hK.1
  obtain ⟨g1, g2, g3, g4, g5⟩ := hK.2.1 j hj
  refine jx_aload_n (i := 0) d_M_tell_0 rfl rfl ?_
  refine jx_getf d_M_tell_1 gf_M_170 hB rfl ?_
  refine jx_sipush (v := 300) d_M_tell_4 (by decide) ?_
  refine jx_icmp_ge (tgt := 86) d_M_tell_7 (by decide) (fun c7 => ?_) (fun c7 => ?_)
  · have h300 : ¬ nO < 300 := fun h => by
      have := (nI_leI (a := 300) (b := nO) (by omega) (by omega)).mp c7
      omega
    rw [sp_ou, if_neg h300] at k
    refine jx_aload_n (i := 0) d_M_tell_86 rfl rfl ?_
    refine jx_dup d_M_tell_87 rfl ?_
    refine jx_getf d_M_tell_88 gf_M_170 hB rfl ?_
    refine jx_iconst (v := 1) d_M_tell_91 (by decide) ?_
    refine jx_iadd d_M_tell_92 ?_
    refine jx_putf d_M_tell_93 pf_M_170 hB (Nat.le_of_ble_eq_true rfl) rfl rfl ?_
    exact jx_vret d_M_tell_96 rfl (by omega) (by omega) (k _ ⟨mk, ki, st, nu, fa, fl, nn, si, wo, ti, va, so, hmk, by rw [nI_1]; exact jx_up_s _ _ _, hO.to (fun q q1 q2 => jx_up_n _ _ (by omega)), hF, hK, hS5, hS⟩ (fun q hq => jx_up_n _ _ (by omega)))
  · have h300 : nO < 300 := by
      rcases Nat.lt_or_ge nO 300 with h | h
      · exact h
      · exact absurd ((nI_leI (a := 300) (b := nO) (by omega) (by omega)).mpr h) c7
    rw [sp_ou, if_pos h300] at k
    generalize hxx : (fun f => sp_fb (fd f).1 (fd f).2.1 (fd f).2.2.1 (kd j).2.2.1 (kd j).2.2.2.1 m (kd j).1) = xx at k
    have q0 : (8 : Int32) * nI nO = nI (nO * 8 + 0) := by rw [show (8 : Int32) = nI 8 from rfl, pk_mul]; congr 1; omega
    have q1 : (8 : Int32) * nI nO + 1 = nI (nO * 8 + 1) := by rw [q0, nI_1]
    have q2 : ∀ f, (8 : Int32) * nI nO + 2 + nI f = nI (nO * 8 + (2 + f)) := fun f => by rw [q0, show (2 : Int32) = nI 2 from rfl, nI_add, nI_add]; congr 1; omega
    have u1 : ∀ e, jx_up M (b + 13) e b = some (kf_M la wi en pe cd nF b lr fr nK nS (kf_b (sp_wm gt)) mk lt nA nO tk lc db fc le) := fun e => (jx_up_n _ _ (by omega)).trans hB
    have hNo : ∀ oc', mW (jx_up M (b + 13) (kf_la 2400 oc')) b la wi en pe cd lr fr gt lt tk lc db fc le nF fd fw nK nm kd nS sn nA ac nO oc' := fun oc' => ⟨mk, ki, st, nu, fa, fl, nn, si, wo, ti, va, so, hmk, u1 _, ⟨(jx_up_n _ _ (by omega)).trans h1, (jx_up_n _ _ (by omega)).trans h2, (jx_up_n _ _ (by omega)).trans h3, (jx_up_n _ _ (by omega)).trans h4, (jx_up_n _ _ (by omega)).trans h5, (jx_up_n _ _ (by omega)).trans h6, (jx_up_n _ _ (by omega)).trans h7, (jx_up_n _ _ (by omega)).trans h8, (jx_up_n _ _ (by omega)).trans h9, (jx_up_n _ _ (by omega)).trans h10, (jx_up_n _ _ (by omega)).trans h11, (jx_up_n _ _ (by omega)).trans h12, jx_up_s _ _ _⟩, hF, hK, hS5, hS⟩
    have loop : ∀ (r f : Nat), f + r = nF → jx_V md_M_tell [] G (jx_rm d 0 0) (jx_Q1 G 0 0 Z) 46 [some (.ref b), some (.int (nI j)), some (.long m), none, some (.int (nI f))] [] (jx_up M (b + 13) (kf_la 2400 (sp_po oc nO m (nm j) xx f))) sz 0 0 := by
      intro r
      induction r with
      | zero =>
        intro f hf
        refine jx_iload d_M_tell_46 rfl ?_
        refine jx_aload_n (i := 0) d_M_tell_48 rfl rfl ?_
        refine jx_getf d_M_tell_49 gf_M_71 (u1 _) rfl ?_
        refine jx_icmp_ge (tgt := 86) d_M_tell_52 (by decide) (fun c52 => ?_) (fun c52 => ?_)
        · refine jx_aload_n (i := 0) d_M_tell_86 rfl rfl ?_
          refine jx_dup d_M_tell_87 rfl ?_
          refine jx_getf d_M_tell_88 gf_M_170 (u1 _) rfl ?_
          refine jx_iconst (v := 1) d_M_tell_91 (by decide) ?_
          refine jx_iadd d_M_tell_92 ?_
          refine jx_putf d_M_tell_93 pf_M_170 (u1 _) (Nat.le_of_ble_eq_true rfl) rfl rfl ?_
          exact jx_vret d_M_tell_96 rfl (by omega) (by omega) (by
            rw [show nF = f by omega] at k ⊢
            refine k _ ?_ (fun q hq => (jx_up_n _ _ (by omega)).trans (jx_up_n _ _ (by omega)))
            have hff : f = nF := by omega
            subst hff
            obtain ⟨mk', ki', st', nu', fa', fl', nn', si', wo', ti', va', so', hmk', hB', hO', hF', hK', hS5', hS'⟩ := hNo (sp_po oc nO m (nm j) xx f)
            exact ⟨mk, ki', st', nu', fa', fl', nn', si', wo', ti', va', so', hmk, by rw [nI_1]; exact jx_up_s _ _ _, hO'.to (fun q q1 q2 => jx_up_n _ _ (by omega)), hF', hK', hS5', hS'⟩)
        · exact absurd ((nI_leI (by omega) (by omega)).mpr (by omega)) c52
      | succ r ih =>
        intro f hf
        have nx := ih (f + 1) (by omega)
        refine jx_iload d_M_tell_46 rfl ?_
        refine jx_aload_n (i := 0) d_M_tell_48 rfl rfl ?_
        refine jx_getf d_M_tell_49 gf_M_71 (u1 _) rfl ?_
        refine jx_icmp_ge (tgt := 86) d_M_tell_52 (by decide) (fun c52 => ?_) (fun c52 => ?_)
        · exact absurd ((nI_leI (by omega) (by omega)).mp c52) (by omega)
        · refine jx_aload_n (i := 0) d_M_tell_55 rfl rfl ?_
          refine jx_getf d_M_tell_56 gf_M_47 (u1 _) rfl ?_
          refine jx_bipush (v := 8) d_M_tell_59 (by decide) ?_
          refine jx_aload_n (i := 0) d_M_tell_61 rfl rfl ?_
          refine jx_getf d_M_tell_62 gf_M_170 (u1 _) rfl ?_
          refine jx_imul d_M_tell_65 ?_
          refine jx_iconst (v := 2) d_M_tell_66 (by decide) ?_
          refine jx_iadd d_M_tell_67 ?_
          refine jx_iload d_M_tell_68 rfl ?_
          refine jx_iadd d_M_tell_70 ?_
          refine jx_aload_n (i := 0) d_M_tell_71 rfl rfl ?_
          refine jx_iload_n (i := 1) d_M_tell_72 rfl rfl ?_
          refine jx_iload d_M_tell_73 rfl ?_
          refine jx_lload_n (i := 2) d_M_tell_75 rfl rfl ?_
          refine jx_callV3 d_M_tell_76 mv_M_173 (u1 _) rfl (jx_ok_rm (by omega) (Nat.le_of_ble_eq_true rfl)) (Nat.le_of_ble_eq_true rfl) (jx_rmc (by omega)) (jx_rms (by omega)) (c_M_foldOf (d := 1) (by omega) hj (show f < nF by omega) (hNo _) ?_)
          dsimp only [Option.toList, List.cons_append, List.nil_append]
          refine jx_lastj d_M_tell_79 (jx_up_s _ _ _) (q2 f) (by omega) (by omega) ?_
          refine jx_iinc d_M_tell_80 rfl (Nat.le_of_ble_eq_true rfl) (jx_e5_4 (by trivial)) ?_
          refine jx_goto (tgt := 46) d_M_tell_83 (by decide) ?_
          rw [jx_up_u, nI_1]
          rw [sp_po, ← hxx] at nx
          rw [← hxx]
          exact nx
    refine jx_aload_n (i := 0) d_M_tell_10 rfl rfl ?_
    refine jx_getf d_M_tell_11 gf_M_47 hB rfl ?_
    refine jx_bipush (v := 8) d_M_tell_14 (by decide) ?_
    refine jx_aload_n (i := 0) d_M_tell_16 rfl rfl ?_
    refine jx_getf d_M_tell_17 gf_M_170 hB rfl ?_
    refine jx_imul d_M_tell_20 ?_
    refine jx_lload_n (i := 2) d_M_tell_21 rfl rfl ?_
    refine jx_lastj d_M_tell_22 h13 q0 (by omega) (by omega) ?_
    refine jx_aload_n (i := 0) d_M_tell_23 rfl rfl ?_
    refine jx_getf d_M_tell_24 gf_M_47 (u1 _) rfl ?_
    refine jx_bipush (v := 8) d_M_tell_27 (by decide) ?_
    refine jx_aload_n (i := 0) d_M_tell_29 rfl rfl ?_
    refine jx_getf d_M_tell_30 gf_M_170 (u1 _) rfl ?_
    refine jx_imul d_M_tell_33 ?_
    refine jx_iconst (v := 1) d_M_tell_34 (by decide) ?_
    refine jx_iadd d_M_tell_35 ?_
    refine jx_aload_n (i := 0) d_M_tell_36 rfl rfl ?_
    refine jx_getf d_M_tell_37 gf_M_26 (u1 _) rfl ?_
    refine jx_iload_n (i := 1) d_M_tell_40 rfl rfl ?_
    refine jx_laldj d_M_tell_41 ((jx_up_n _ _ (by omega)).trans h6) rfl (by omega) (by omega) ?_
    refine jx_lastj d_M_tell_42 (jx_up_s _ _ _) q1 (by omega) (by omega) ?_
    refine jx_iconst (v := 0) d_M_tell_43 (by decide) ?_
    refine jx_istore d_M_tell_44 (Nat.le_of_ble_eq_true rfl) (jx_e5_4 (by trivial)) ?_
    rw [jx_up_u, g2]
    exact loop nF 0 (by omega)
end CM9
