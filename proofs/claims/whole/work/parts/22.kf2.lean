/-! PART 22: KeyedFolds: asides, outputs -/
/-- a line of four numbers -/
def sp_pa (ac : Nat → Int64) (n : Nat) (key t v c : Int64) : Nat → Int64 := if n < 100 then vp_updL (vp_updL (vp_updL (vp_updL ac (n * 4 + 0) key) (n * 4 + 1) t) (n * 4 + 2) v) (n * 4 + 3) c else ac
/-- a line of an output: m, the key, a number a fold -/
def sp_po (oc : Nat → Int64) (n : Nat) (m key : Int64) (x : Nat → Int64) : Nat → Nat → Int64
  | 0 => vp_updL (vp_updL oc (n * 8 + 0) m) (n * 8 + 1) key
  | f + 1 => vp_updL (sp_po oc n m key x f) (n * 8 + (2 + f)) (x f)
def sp_ou (oc : Nat → Int64) (n : Nat) (m key : Int64) (x : Nat → Int64) (nF : Nat) : Nat → Int64 := if n < 300 then sp_po oc n m key x nF else oc
section CK2
variable {G : jx_G} {d a fl kl so ao oo far nF sz nA nO : Nat} {la wi en pe lr fr tk lc db fc le cs : Int32} {gt lt t v key m : Int64} {fo : Nat → Nat} {fd : sp_fd} {ac oc : Nat → Int64} {M : jx_H} {Z : Option Value → jx_H → Nat → Prop}
theorem c_K_putAside {ta aca : Nat} (hd : 0 < d) (hn : nA < 2 ^ 29) (hK : M a = some (kf_K la wi en pe fl kl so ta oo lr fr gt lt tk lc db fc le)) (hT : M ta = some (kf_T nA 100 4 aca)) (hC : M aca = some (kf_la 400 ac)) (k : Z none (jx_up (jx_up M ta (kf_T (nA + 1) 100 4 aca)) aca (kf_la 400 (sp_pa ac nA key t v cs.toInt64))) sz) : jx_Cr md_K_putAside G d [.ref a, .long key, .long t, .long v, .int cs] M sz 0 0 Z := by
  refine jx_ent rfl (Nat.le_of_ble_eq_true rfl) (l := [some (.ref a), some (.long key), none, some (.long t), none, some (.long v), none, some (.int cs), none]) (by simp [jx_le, jx_eas, Value.category]) (fun hlt => ?_)
  have n1 : a ≠ ta := by intro q; rw [q, hT] at hK; simp at hK
  have n2 : a ≠ aca := by intro q; rw [q, hC] at hK; simp at hK
  have n3 : ta ≠ aca := by intro q; rw [q, hC] at hT; simp at hT
  refine jx_aload_n (i := 0) d_K_putAside_0 rfl rfl ?_
  refine jx_getf d_K_putAside_1 gf_K_31 hK rfl ?_
  refine jx_callV0 d_K_putAside_4 mv_K_284 hT rfl (jx_ok_rm (by omega) (Nat.le_of_ble_eq_true rfl)) (Nat.le_of_ble_eq_true rfl) (jx_rmc (by omega)) (jx_rms (by omega)) (c_T_addLine (d := 0) (by omega) (by omega) hT ?_)
  dsimp only [Option.toList, List.cons_append, List.nil_append]
  have hK1 : jx_up M ta (kf_T (nA + 1) 100 4 aca) a = some (kf_K la wi en pe fl kl so ta oo lr fr gt lt tk lc db fc le) := (jx_up_n _ _ n1).trans hK
  have hT1 : jx_up M ta (kf_T (nA + 1) 100 4 aca) ta = some (kf_T (nA + 1) 100 4 aca) := jx_up_s _ _ _
  have hC1 : jx_up M ta (kf_T (nA + 1) 100 4 aca) aca = some (kf_la 400 ac) := (jx_up_n _ _ (Ne.symm n3)).trans hC
  by_cases h100 : nA < 100
  · rw [if_pos h100]
    refine jx_istore d_K_putAside_7 (Nat.le_of_ble_eq_true rfl) (jx_e9_8 (by trivial)) ?_
    refine jx_iload d_K_putAside_9 rfl ?_
    refine jx_iconst (v := (-1)) d_K_putAside_11 (by decide) ?_
    refine jx_icmp_eq (tgt := 62) d_K_putAside_12 (by decide) (fun c12 => ?_) (fun c12 => ?_)
    · exact absurd c12 (fun q => by have := congrArg Int32.toInt q; rw [nI_toInt (by omega)] at this; have e : (-1 : Int32).toInt = -1 := by decide
                                    omega)
    · refine jx_aload_n (i := 0) d_K_putAside_15 rfl rfl ?_
      refine jx_getf d_K_putAside_16 gf_K_31 hK1 rfl ?_
      refine jx_iload d_K_putAside_19 rfl ?_
      refine jx_iconst (v := 0) d_K_putAside_21 (by decide) ?_
      refine jx_lload_n (i := 1) d_K_putAside_22 rfl rfl ?_
      refine jx_callV3 d_K_putAside_23 mv_K_287 hT1 rfl (jx_ok_rm (by omega) (Nat.le_of_ble_eq_true rfl)) (Nat.le_of_ble_eq_true rfl) (jx_rmc (by omega)) (jx_rms (by omega)) (c_T_set (i := nA) (j := 0) (li := 100) (wi := 4) (d := 0) (by omega) (by omega) hT1 hC1 ?_)
      dsimp only [Option.toList, List.cons_append, List.nil_append]
      refine jx_aload_n (i := 0) d_K_putAside_26 rfl rfl ?_
      refine jx_getf d_K_putAside_27 gf_K_31 ((jx_up_n _ _ n2).trans hK1) rfl ?_
      refine jx_iload d_K_putAside_30 rfl ?_
      refine jx_iconst (v := 1) d_K_putAside_32 (by decide) ?_
      refine jx_lload_n (i := 3) d_K_putAside_33 rfl rfl ?_
      refine jx_callV3 d_K_putAside_34 mv_K_287 ((jx_up_n _ _ n3).trans hT1) rfl (jx_ok_rm (by omega) (Nat.le_of_ble_eq_true rfl)) (Nat.le_of_ble_eq_true rfl) (jx_rmc (by omega)) (jx_rms (by omega)) (c_T_set (i := nA) (j := 1) (li := 100) (wi := 4) (d := 0) (by omega) (by omega) ((jx_up_n _ _ n3).trans hT1) (jx_up_s _ _ _) ?_)
      dsimp only [Option.toList, List.cons_append, List.nil_append]
      rw [jx_up_u]
      refine jx_aload_n (i := 0) d_K_putAside_37 rfl rfl ?_
      refine jx_getf d_K_putAside_38 gf_K_31 ((jx_up_n _ _ n2).trans hK1) rfl ?_
      refine jx_iload d_K_putAside_41 rfl ?_
      refine jx_iconst (v := 2) d_K_putAside_43 (by decide) ?_
      refine jx_lload d_K_putAside_44 rfl ?_
      refine jx_callV3 d_K_putAside_46 mv_K_287 ((jx_up_n _ _ n3).trans hT1) rfl (jx_ok_rm (by omega) (Nat.le_of_ble_eq_true rfl)) (Nat.le_of_ble_eq_true rfl) (jx_rmc (by omega)) (jx_rms (by omega)) (c_T_set (i := nA) (j := 2) (li := 100) (wi := 4) (d := 0) (by omega) (by omega) ((jx_up_n _ _ n3).trans hT1) (jx_up_s _ _ _) ?_)
      dsimp only [Option.toList, List.cons_append, List.nil_append]
      rw [jx_up_u]
      refine jx_aload_n (i := 0) d_K_putAside_49 rfl rfl ?_
      refine jx_getf d_K_putAside_50 gf_K_31 ((jx_up_n _ _ n2).trans hK1) rfl ?_
      refine jx_iload d_K_putAside_53 rfl ?_
      refine jx_iconst (v := 3) d_K_putAside_55 (by decide) ?_
      refine jx_iload d_K_putAside_56 rfl ?_
      refine jx_i2l d_K_putAside_58 ?_
      refine jx_callV3 d_K_putAside_59 mv_K_287 ((jx_up_n _ _ n3).trans hT1) rfl (jx_ok_rm (by omega) (Nat.le_of_ble_eq_true rfl)) (Nat.le_of_ble_eq_true rfl) (jx_rmc (by omega)) (jx_rms (by omega)) (c_T_set (i := nA) (j := 3) (li := 100) (wi := 4) (d := 0) (by omega) (by omega) ((jx_up_n _ _ n3).trans hT1) (jx_up_s _ _ _) ?_)
      dsimp only [Option.toList, List.cons_append, List.nil_append]
      rw [jx_up_u]
      exact jx_vret d_K_putAside_62 rfl (by omega) (by omega) (by rw [sp_pa, if_pos h100] at k; exact k)
  · rw [if_neg h100]
    refine jx_istore d_K_putAside_7 (Nat.le_of_ble_eq_true rfl) (jx_e9_8 (by trivial)) ?_
    refine jx_iload d_K_putAside_9 rfl ?_
    refine jx_iconst (v := (-1)) d_K_putAside_11 (by decide) ?_
    refine jx_icmp_eq (tgt := 62) d_K_putAside_12 (by decide) (fun c12 => ?_) (fun c12 => ?_)
    · exact jx_vret d_K_putAside_62 rfl (by omega) (by omega) (by rw [sp_pa, if_neg h100, jx_up_id _ hC1] at k; exact k)
    · exact absurd rfl c12
theorem c_K_putOut {oo oca o ka va sa n r : Nat} {wk : Int32} {tm vl : Nat → Int64} (hd : 2 < d) (hn : nO < 2 ^ 29) (hK : M a = some (kf_K la wi en pe fl kl so ao oo lr fr gt lt tk lc db fc le)) (hT : M oo = some (kf_T nO 300 8 oca)) (hC : M oca = some (kf_la 2400 oc)) (hF : kf_Fs G M fl far nF fo fd) (hR : M o = some (kf_R key ka va sa n wk fl)) (ht : M ka = some (kf_la 60 tm)) (hv : M va = some (kf_la 60 vl)) (hka : ka ≠ oca) (hva : va ≠ oca) (hn60 : n ≤ 60) (hr : r ≤ n) (k : Z none (jx_up (jx_up M oo (kf_T (nO + 1) 300 8 oca)) oca (kf_la 2400 (sp_ou oc nO m key (fun f => sp_fo (fd f).1 (fd f).2.1 (fd f).2.2.1 tm vl r) nF))) sz) : jx_Cr md_K_putOut G d [.ref a, .long m, .ref o, .int (nI r)] M sz 0 0 Z := by
  refine jx_ent rfl (Nat.le_of_ble_eq_true rfl) (l := [some (.ref a), some (.long m), none, some (.ref o), some (.int (nI r)), none, none]) (by simp [jx_le, jx_eas, Value.category]) (fun hlt => ?_)
  have n1 : a ≠ oo := by intro q; rw [q, hT] at hK; simp at hK
  have n2 : a ≠ oca := by intro q; rw [q, hC] at hK; simp at hK
  have n3 : oo ≠ oca := by intro q; rw [q, hC] at hT; simp at hT
  have n4 : o ≠ oo := by intro q; rw [q, hT] at hR; simp at hR
  have n5 : o ≠ oca := by intro q; rw [q, hC] at hR; simp at hR
  have n6 : ka ≠ oo := by intro q; rw [q, hT] at ht; simp at ht
  have n7 : va ≠ oo := by intro q; rw [q, hT] at hv; simp at hv
  have hnF := hF.2.1
  have key0 : ∀ (M1 : jx_H), (∀ q, q ≠ oo → q ≠ oca → M1 q = M q) → kf_Fs G M1 fl far nF fo fd := by
    intro M1 hM
    obtain ⟨⟨⟨mo, g1⟩, g2⟩, g3, g4⟩ := hF
    have kk : ∀ q e, M q = some e → (∀ c, e ≠ kf_T c 300 8 oca) → (∀ f, e ≠ kf_la 2400 f) → M1 q = some e := by
      intro q e he h1 h2
      rw [hM q (fun z => by rw [z, hT] at he; exact h1 _ (Option.some.inj he).symm) (fun z => by rw [z, hC] at he; exact h2 _ (Option.some.inj he).symm)]
      exact he
    refine ⟨⟨⟨mo, kk _ _ g1 (by intros; simp) (by intros; simp)⟩, ?_⟩, g3, fun i hi => ⟨(g4 i hi).1, kk _ _ (g4 i hi).2 (by intros; simp) (by intros; simp)⟩⟩
    rcases g2 with g2 | ⟨N, f, e1, e2⟩
    · exact Or.inl g2
    · exact Or.inr ⟨N, f, kk _ _ e1 (by intros; simp) (by intros; simp), e2⟩
  refine jx_aload_n (i := 0) d_K_putOut_0 rfl rfl ?_
  refine jx_getf d_K_putOut_1 gf_K_35 hK rfl ?_
  refine jx_callV0 d_K_putOut_4 mv_K_284 hT rfl (jx_ok_rm (by omega) (Nat.le_of_ble_eq_true rfl)) (Nat.le_of_ble_eq_true rfl) (jx_rmc (by omega)) (jx_rms (by omega)) (c_T_addLine (d := 0) (by omega) (by omega) hT ?_)
  dsimp only [Option.toList, List.cons_append, List.nil_append]
  have hK1 : jx_up M oo (kf_T (nO + 1) 300 8 oca) a = some (kf_K la wi en pe fl kl so ao oo lr fr gt lt tk lc db fc le) := (jx_up_n _ _ n1).trans hK
  have hT1 : jx_up M oo (kf_T (nO + 1) 300 8 oca) oo = some (kf_T (nO + 1) 300 8 oca) := jx_up_s _ _ _
  have hC1 : jx_up M oo (kf_T (nO + 1) 300 8 oca) oca = some (kf_la 2400 oc) := (jx_up_n _ _ (Ne.symm n3)).trans hC
  have hR1 : jx_up M oo (kf_T (nO + 1) 300 8 oca) o = some (kf_R key ka va sa n wk fl) := (jx_up_n _ _ n4).trans hR
  have ht1 : jx_up M oo (kf_T (nO + 1) 300 8 oca) ka = some (kf_la 60 tm) := (jx_up_n _ _ n6).trans ht
  have hv1 : jx_up M oo (kf_T (nO + 1) 300 8 oca) va = some (kf_la 60 vl) := (jx_up_n _ _ n7).trans hv
  by_cases h300 : nO < 300
  · rw [if_pos h300]
    have loop : ∀ (j f : Nat), f + j = nF → jx_V md_K_putOut [] G (jx_rm d 0 0) (jx_Q1 G 0 0 Z) 43 [some (.ref a), some (.long m), none, some (.ref o), some (.int (nI r)), some (.int (nI nO)), some (.int (nI f))] [] (jx_up (jx_up M oo (kf_T (nO + 1) 300 8 oca)) oca (kf_la 2400 (sp_po oc nO m key (fun f => sp_fo (fd f).1 (fd f).2.1 (fd f).2.2.1 tm vl r) f))) sz 0 0 := by
      intro j
      induction j with
      | zero =>
        intro f hi
        have hF1 := key0 (jx_up (jx_up M oo (kf_T (nO + 1) 300 8 oca)) oca (kf_la 2400 (sp_po oc nO m key (fun f => sp_fo (fd f).1 (fd f).2.1 (fd f).2.2.1 tm vl r) f))) (fun q q1 q2 => by rw [jx_up_n _ _ q2, jx_up_n _ _ q1])
        obtain ⟨mo, hA⟩ := hF1.1.1
        refine jx_iload d_K_putOut_43 rfl ?_
        refine jx_aload_n (i := 0) d_K_putOut_45 rfl rfl ?_
        refine jx_getf d_K_putOut_46 gf_K_10 ((jx_up_n _ _ n2).trans hK1) rfl ?_
        refine jx_callV0 d_K_putOut_49 mv_K_92 hA rfl (jx_ok_rm (by omega) (Nat.le_of_ble_eq_true rfl)) (Nat.le_of_ble_eq_true rfl) (jx_rmc (by omega)) (jx_rms (by omega)) (c_L_size (d := 0) hF1.1 ?_)
        dsimp only [Option.toList, List.cons_append, List.nil_append]
        refine jx_icmp_ge (tgt := 92) d_K_putOut_52 (by decide) (fun c52 => ?_) (fun c52 => ?_)
        · exact jx_vret d_K_putOut_92 rfl (by omega) (by omega) (by
            have e : f = nF := by omega
            subst e
            rw [sp_ou, if_pos h300] at k
            exact k)
        · exact absurd ((nI_leI (by omega) (by omega)).mpr (by omega)) c52
      | succ j ih =>
        intro f hi
        have hF1 := key0 (jx_up (jx_up M oo (kf_T (nO + 1) 300 8 oca)) oca (kf_la 2400 (sp_po oc nO m key (fun f => sp_fo (fd f).1 (fd f).2.1 (fd f).2.2.1 tm vl r) f))) (fun q q1 q2 => by rw [jx_up_n _ _ q2, jx_up_n _ _ q1])
        obtain ⟨mo, hA⟩ := hF1.1.1
        have hfd := hF1.2.2 f (by omega)
        refine jx_iload d_K_putOut_43 rfl ?_
        refine jx_aload_n (i := 0) d_K_putOut_45 rfl rfl ?_
        refine jx_getf d_K_putOut_46 gf_K_10 ((jx_up_n _ _ n2).trans hK1) rfl ?_
        refine jx_callV0 d_K_putOut_49 mv_K_92 hA rfl (jx_ok_rm (by omega) (Nat.le_of_ble_eq_true rfl)) (Nat.le_of_ble_eq_true rfl) (jx_rmc (by omega)) (jx_rms (by omega)) (c_L_size (d := 0) hF1.1 ?_)
        dsimp only [Option.toList, List.cons_append, List.nil_append]
        refine jx_icmp_ge (tgt := 92) d_K_putOut_52 (by decide) (fun c52 => ?_) (fun c52 => ?_)
        · exact absurd ((nI_leI (by omega) (by omega)).mp c52) (by omega)
        · refine jx_aload_n (i := 0) d_K_putOut_55 rfl rfl ?_
          refine jx_getf d_K_putOut_56 gf_K_35 ((jx_up_n _ _ n2).trans hK1) rfl ?_
          refine jx_iload d_K_putOut_59 rfl ?_
          refine jx_iconst (v := 2) d_K_putOut_61 (by decide) ?_
          refine jx_iload d_K_putOut_62 rfl ?_
          refine jx_iadd d_K_putOut_64 ?_
          rw [show (2 : Int32) + nI f = nI (2 + f) from nI_add 2 f]
          refine jx_aload_n (i := 3) d_K_putOut_65 rfl rfl ?_
          refine jx_iload d_K_putOut_66 rfl ?_
          refine jx_aload_n (i := 0) d_K_putOut_68 rfl rfl ?_
          refine jx_getf d_K_putOut_69 gf_K_10 ((jx_up_n _ _ n2).trans hK1) rfl ?_
          refine jx_iload d_K_putOut_72 rfl ?_
          refine jx_callV1 d_K_putOut_74 mv_K_125 hA rfl (jx_ok_rm (by omega) (Nat.le_of_ble_eq_true rfl)) (Nat.le_of_ble_eq_true rfl) (jx_rmc (by omega)) (jx_rms (by omega)) (c_L_get (d := 2) (by omega) hF1.1 (by omega) ?_)
          dsimp only [Option.toList, List.cons_append, List.nil_append]
          refine jx_castn d_K_putOut_77 hfd.2 rfl nk_K_107 nx_F_KeyedFolds_Fold ?_
          refine jx_callV2 d_K_putOut_80 mv_K_324 ((jx_up_n _ _ n5).trans hR1) rfl (jx_ok_rm (by omega) (Nat.le_of_ble_eq_true rfl)) (Nat.le_of_ble_eq_true rfl) (jx_rmc (by omega)) (jx_rms (by omega)) (c_R_stateOfFirst (d := 2) (by omega) ((jx_up_n _ _ n5).trans hR1) ((jx_up_n _ _ hka).trans ht1) ((jx_up_n _ _ hva).trans hv1) hfd.2 hfd.1 hn60 hr ?_)
          dsimp only [Option.toList, List.cons_append, List.nil_append]
          refine jx_callV3 d_K_putOut_83 mv_K_287 ((jx_up_n _ _ n3).trans hT1) rfl (jx_ok_rm (by omega) (Nat.le_of_ble_eq_true rfl)) (Nat.le_of_ble_eq_true rfl) (jx_rmc (by omega)) (jx_rms (by omega)) (c_T_set (i := nO) (j := 2 + f) (li := 300) (wi := 8) (d := 0) (by omega) (by omega) ((jx_up_n _ _ n3).trans hT1) (jx_up_s _ _ _) ?_)
          dsimp only [Option.toList, List.cons_append, List.nil_append]
          rw [jx_up_u]
          refine jx_iinc d_K_putOut_86 rfl (Nat.le_of_ble_eq_true rfl) (jx_e7_6 (by trivial)) ?_
          refine jx_goto (tgt := 43) d_K_putOut_89 (by decide) ?_
          rw [nI_1]
          exact ih (f + 1) (by omega)
    refine jx_istore d_K_putOut_7 (Nat.le_of_ble_eq_true rfl) (jx_e7_5 (by trivial)) ?_
    refine jx_iload d_K_putOut_9 rfl ?_
    refine jx_iconst (v := (-1)) d_K_putOut_11 (by decide) ?_
    refine jx_icmp_eq (tgt := 92) d_K_putOut_12 (by decide) (fun c12 => ?_) (fun c12 => ?_)
    · exact absurd c12 (fun q => by have := congrArg Int32.toInt q; rw [nI_toInt (by omega)] at this; have e : (-1 : Int32).toInt = -1 := by decide
                                    omega)
    · refine jx_aload_n (i := 0) d_K_putOut_15 rfl rfl ?_
      refine jx_getf d_K_putOut_16 gf_K_35 hK1 rfl ?_
      refine jx_iload d_K_putOut_19 rfl ?_
      refine jx_iconst (v := 0) d_K_putOut_21 (by decide) ?_
      refine jx_lload_n (i := 1) d_K_putOut_22 rfl rfl ?_
      refine jx_callV3 d_K_putOut_23 mv_K_287 hT1 rfl (jx_ok_rm (by omega) (Nat.le_of_ble_eq_true rfl)) (Nat.le_of_ble_eq_true rfl) (jx_rmc (by omega)) (jx_rms (by omega)) (c_T_set (i := nO) (j := 0) (li := 300) (wi := 8) (d := 0) (by omega) (by omega) hT1 hC1 ?_)
      dsimp only [Option.toList, List.cons_append, List.nil_append]
      refine jx_aload_n (i := 0) d_K_putOut_26 rfl rfl ?_
      refine jx_getf d_K_putOut_27 gf_K_35 ((jx_up_n _ _ n2).trans hK1) rfl ?_
      refine jx_iload d_K_putOut_30 rfl ?_
      refine jx_iconst (v := 1) d_K_putOut_32 (by decide) ?_
      refine jx_aload_n (i := 3) d_K_putOut_33 rfl rfl ?_
      refine jx_getf d_K_putOut_34 gf_K_268 ((jx_up_n _ _ n5).trans hR1) rfl ?_
      refine jx_callV3 d_K_putOut_37 mv_K_287 ((jx_up_n _ _ n3).trans hT1) rfl (jx_ok_rm (by omega) (Nat.le_of_ble_eq_true rfl)) (Nat.le_of_ble_eq_true rfl) (jx_rmc (by omega)) (jx_rms (by omega)) (c_T_set (i := nO) (j := 1) (li := 300) (wi := 8) (d := 0) (by omega) (by omega) ((jx_up_n _ _ n3).trans hT1) (jx_up_s _ _ _) ?_)
      dsimp only [Option.toList, List.cons_append, List.nil_append]
      rw [jx_up_u]
      refine jx_iconst (v := 0) d_K_putOut_40 (by decide) ?_
      refine jx_istore d_K_putOut_41 (Nat.le_of_ble_eq_true rfl) (jx_e7_6 (by trivial)) ?_
      exact loop nF 0 (by omega)
  · rw [if_neg h300]
    refine jx_istore d_K_putOut_7 (Nat.le_of_ble_eq_true rfl) (jx_e7_5 (by trivial)) ?_
    refine jx_iload d_K_putOut_9 rfl ?_
    refine jx_iconst (v := (-1)) d_K_putOut_11 (by decide) ?_
    refine jx_icmp_eq (tgt := 92) d_K_putOut_12 (by decide) (fun c12 => ?_) (fun c12 => ?_)
    · exact jx_vret d_K_putOut_92 rfl (by omega) (by omega) (by rw [sp_ou, if_neg h300, jx_up_id _ hC1] at k; exact k)
    · exact absurd rfl c12
end CK2
