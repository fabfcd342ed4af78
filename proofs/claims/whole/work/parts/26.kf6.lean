/-! PART 26: KeyedFolds: codeOf, turnAway -/
section CK6
variable {G : jx_G} {d a lo far kar nF nK sz : Nat} {la wi en pe lr fr tk lc db fc le : Int32} {gt lt t v key : Int64} {fo ko : Nat → Nat} {nm : Nat → Int64} {kd : Nat → sp_key} {fd : sp_fd} {fw : Nat → Nat → Int64} {M : jx_H} {Z : Option Value → jx_H → Nat → Prop}
theorem c_K_codeOf (hd : 3 < d) (hK : M a = some (kf_K la wi en pe (a + 1) (a + 2) (a + 3) (a + 5) (a + 7) lr fr gt lt tk lc db fc le)) (hF : kC_F G M a lo far nF fo fd fw) (hQ : kC_K G M a lo nF kar nK ko nm kd) (k : Z (some (.int (sp_co (sp_lt gt la t) lr fr (sp_db nK nm kd key t v en) (sp_ix (sp_ff fd fw v) nF)))) M sz) : jx_Cr md_K_codeOf G d [.ref a, .long key, .long t, .long v] M sz 0 0 Z := by
  refine jx_ent rfl (Nat.le_of_ble_eq_true rfl) (l := [some (.ref a), some (.long key), none, some (.long t), none, some (.long v), none, none]) (by simp [jx_le, jx_eas, Value.category]) (fun hlt => ?_)
  have hnK := hQ.2.1
  have hnF := hF.1.2.1
  obtain ⟨mo, hA⟩ := hQ.1.1
  have cause : ∀ x7 : Option Value, (¬ (sp_lt gt la t = true ∧ lr = 0)) → (¬ (sp_lt gt la t = true ∧ lr = 1)) → sp_db nK nm kd key t v en = false → jx_V md_K_codeOf [] G (jx_rm d 0 0) (jx_Q1 G 0 0 Z) 74 [some (.ref a), some (.long key), none, some (.long t), none, some (.long v), none, x7] [] M sz 0 0 := by
    intro x7 h1 h2 h3
    rw [sp_co, if_neg h1, if_neg h2, if_neg (by rw [h3]; simp)] at k
    have hm := kf_ix_m1 (r := sp_ix (sp_ff fd fw v) nF) (fun i hi => (sp_ix_lt hi).1) (n := nF) (by omega)
    refine jx_aload_n (i := 0) d_K_codeOf_74 rfl rfl ?_
    refine jx_lload d_K_codeOf_75 rfl ?_
    refine jx_callV1 d_K_codeOf_77 mv_K_275 hK rfl (jx_ok_rm (by omega) (Nat.le_of_ble_eq_true rfl)) (Nat.le_of_ble_eq_true rfl) (jx_rmc (by omega)) (jx_rms (by omega)) (c_K_causeOf (d := 3) (by omega) hK hF.1 hF.2.1 ?_)
    dsimp only [Option.toList, List.cons_append, List.nil_append]
    refine jx_iconst (v := (-1)) d_K_codeOf_80 (by decide) ?_
    refine jx_icmp_ne (tgt := 86) d_K_codeOf_81 (by decide) (fun c81 => ?_) (fun c81 => ?_)
    · rw [if_neg (fun q => c81 (hm.mpr q))] at k
      refine jx_aload_n (i := 0) d_K_codeOf_86 rfl rfl ?_
      refine jx_getf d_K_codeOf_87 gf_K_42 hK rfl ?_
      refine jx_if_ne (tgt := 95) d_K_codeOf_90 (by decide) (fun c90 => ?_) (fun c90 => ?_)
      · rw [if_neg c90] at k
        refine jx_aload_n (i := 0) d_K_codeOf_95 rfl rfl ?_
        refine jx_getf d_K_codeOf_96 gf_K_42 hK rfl ?_
        refine jx_iconst (v := 1) d_K_codeOf_99 (by decide) ?_
        refine jx_icmp_ne (tgt := 107) d_K_codeOf_100 (by decide) (fun c100 => ?_) (fun c100 => ?_)
        · refine jx_bipush (v := 6) d_K_codeOf_107 (by decide) ?_
          exact jx_iret d_K_codeOf_109 rfl (by omega) (by omega) (by rw [if_neg c100] at k; exact k)
        · refine jx_iconst (v := 5) d_K_codeOf_103 (by decide) ?_
          refine jx_goto (tgt := 109) d_K_codeOf_104 (by decide) ?_
          exact jx_iret d_K_codeOf_109 rfl (by omega) (by omega) (by rw [if_pos c100] at k; exact k)
      · refine jx_iconst (v := 4) d_K_codeOf_93 (by decide) ?_
        exact jx_iret d_K_codeOf_94 rfl (by omega) (by omega) (by rw [if_pos c90] at k; exact k)
    · refine jx_iconst (v := 0) d_K_codeOf_84 (by decide) ?_
      exact jx_iret d_K_codeOf_85 rfl (by omega) (by omega) (by rw [if_pos (hm.mp c81)] at k; exact k)
  have double : (¬ (sp_lt gt la t = true ∧ lr = 0)) → (¬ (sp_lt gt la t = true ∧ lr = 1)) → jx_V md_K_codeOf [] G (jx_rm d 0 0) (jx_Q1 G 0 0 Z) 35 [some (.ref a), some (.long key), none, some (.long t), none, some (.long v), none, none] [] M sz 0 0 := by
    intro h1 h2
    refine jx_aload_n (i := 0) d_K_codeOf_35 rfl rfl ?_
    refine jx_lload_n (i := 1) d_K_codeOf_36 rfl rfl ?_
    refine jx_callV1 d_K_codeOf_37 mv_K_190 hK rfl (jx_ok_rm (by omega) (Nat.le_of_ble_eq_true rfl)) (Nat.le_of_ble_eq_true rfl) (jx_rmc (by omega)) (jx_rms (by omega)) (c_K_placeOfKey (d := 3) (by omega) hK hQ.kn ?_)
    dsimp only [Option.toList, List.cons_append, List.nil_append]
    cases hq : sp_ix (fun j => nm j == key) nK with
    | none =>
      refine jx_istore d_K_codeOf_40 (Nat.le_of_ble_eq_true rfl) (jx_e8_7 (by trivial)) ?_
      refine jx_iload d_K_codeOf_42 rfl ?_
      refine jx_if_lt (tgt := 74) d_K_codeOf_44 (by decide) (fun c44 => ?_) (fun c44 => ?_)
      · exact cause _ h1 h2 (by rw [sp_db, hq])
      · exact absurd (by decide) c44
    | some j =>
      have hj := (sp_ix_lt hq).1
      have hkj := hQ.2.2.2.1 j hj
      refine jx_istore d_K_codeOf_40 (Nat.le_of_ble_eq_true rfl) (jx_e8_7 (by trivial)) ?_
      refine jx_iload d_K_codeOf_42 rfl ?_
      refine jx_if_lt (tgt := 74) d_K_codeOf_44 (by decide) (fun c44 => ?_) (fun c44 => ?_)
      · exact absurd c44 (nI_pos (by omega))
      · refine jx_aload_n (i := 0) d_K_codeOf_47 rfl rfl ?_
        refine jx_getf d_K_codeOf_48 gf_K_16 hK rfl ?_
        refine jx_iload d_K_codeOf_51 rfl ?_
        refine jx_callV1 d_K_codeOf_53 mv_K_125 hA rfl (jx_ok_rm (by omega) (Nat.le_of_ble_eq_true rfl)) (Nat.le_of_ble_eq_true rfl) (jx_rmc (by omega)) (jx_rms (by omega)) (c_L_get (d := 2) (by omega) hQ.1 hj ?_)
        dsimp only [Option.toList, List.cons_append, List.nil_append]
        refine jx_castn d_K_codeOf_56 hkj.2.1.1 rfl nk_K_196 nx_R_KeyedFolds_KeyRows ?_
        refine jx_lload_n (i := 3) d_K_codeOf_59 rfl rfl ?_
        refine jx_lload d_K_codeOf_60 rfl ?_
        refine jx_aload_n (i := 0) d_K_codeOf_62 rfl rfl ?_
        refine jx_getf d_K_codeOf_63 gf_K_79 hK rfl ?_
        refine jx_callV3 d_K_codeOf_66 mv_K_271 hkj.2.1.1 rfl (jx_ok_rm (by omega) (Nat.le_of_ble_eq_true rfl)) (Nat.le_of_ble_eq_true rfl) (jx_rmc (by omega)) (jx_rms (by omega)) (c_R_hasNear (d := 0) hkj.2.1.1 hkj.2.1.2.1 hkj.2.1.2.2.1 hkj.1 ?_)
        dsimp only [Option.toList, List.cons_append, List.nil_append]
        refine jx_if_eq (tgt := 74) d_K_codeOf_69 (by decide) (fun c69 => ?_) (fun c69 => ?_)
        · rw [kf_b_eq0] at c69
          exact cause _ h1 h2 (by rw [sp_db, hq]; exact c69)
        · refine jx_iconst (v := 3) d_K_codeOf_72 (by decide) ?_
          exact jx_iret d_K_codeOf_73 rfl (by omega) (by omega) (by
            have e := kf_b_ne0 c69
            rw [sp_co, if_neg h1, if_neg h2, if_pos (by rw [sp_db, hq]; exact e)] at k
            exact k)
  refine jx_aload_n (i := 0) d_K_codeOf_0 rfl rfl ?_
  refine jx_lload_n (i := 3) d_K_codeOf_1 rfl rfl ?_
  refine jx_callV1 d_K_codeOf_2 mv_K_168 hK rfl (jx_ok_rm (by omega) (Nat.le_of_ble_eq_true rfl)) (Nat.le_of_ble_eq_true rfl) (jx_rmc (by omega)) (jx_rms (by omega)) (c_K_isLate (d := 1) (by omega) hK ?_)
  dsimp only [Option.toList, List.cons_append, List.nil_append]
  refine jx_if_eq (tgt := 17) d_K_codeOf_5 (by decide) (fun c5 => ?_) (fun c5 => ?_)
  · rw [kf_b_eq0] at c5
    refine jx_aload_n (i := 0) d_K_codeOf_17 rfl rfl ?_
    refine jx_lload_n (i := 3) d_K_codeOf_18 rfl rfl ?_
    refine jx_callV1 d_K_codeOf_19 mv_K_168 hK rfl (jx_ok_rm (by omega) (Nat.le_of_ble_eq_true rfl)) (Nat.le_of_ble_eq_true rfl) (jx_rmc (by omega)) (jx_rms (by omega)) (c_K_isLate (d := 1) (by omega) hK ?_)
    dsimp only [Option.toList, List.cons_append, List.nil_append]
    refine jx_if_eq (tgt := 35) d_K_codeOf_22 (by decide) (fun c22 => ?_) (fun c22 => ?_)
    · exact double (by rw [c5]; simp) (by rw [c5]; simp)
    · exact absurd ((kf_b_eq0 _).mpr c5) c22
  · have e := kf_b_ne0 c5
    refine jx_aload_n (i := 0) d_K_codeOf_8 rfl rfl ?_
    refine jx_getf d_K_codeOf_9 gf_K_38 hK rfl ?_
    refine jx_if_ne (tgt := 17) d_K_codeOf_12 (by decide) (fun c12 => ?_) (fun c12 => ?_)
    · refine jx_aload_n (i := 0) d_K_codeOf_17 rfl rfl ?_
      refine jx_lload_n (i := 3) d_K_codeOf_18 rfl rfl ?_
      refine jx_callV1 d_K_codeOf_19 mv_K_168 hK rfl (jx_ok_rm (by omega) (Nat.le_of_ble_eq_true rfl)) (Nat.le_of_ble_eq_true rfl) (jx_rmc (by omega)) (jx_rms (by omega)) (c_K_isLate (d := 1) (by omega) hK ?_)
      dsimp only [Option.toList, List.cons_append, List.nil_append]
      refine jx_if_eq (tgt := 35) d_K_codeOf_22 (by decide) (fun c22 => ?_) (fun c22 => ?_)
      · exact absurd c22 c5
      · refine jx_aload_n (i := 0) d_K_codeOf_25 rfl rfl ?_
        refine jx_getf d_K_codeOf_26 gf_K_38 hK rfl ?_
        refine jx_iconst (v := 1) d_K_codeOf_29 (by decide) ?_
        refine jx_icmp_ne (tgt := 35) d_K_codeOf_30 (by decide) (fun c30 => ?_) (fun c30 => ?_)
        · exact double (fun q => c12 q.2) (fun q => c30 q.2)
        · refine jx_iconst (v := 2) d_K_codeOf_33 (by decide) ?_
          exact jx_iret d_K_codeOf_34 rfl (by omega) (by omega) (by rw [sp_co, if_neg (fun q => c12 q.2), if_pos ⟨e, c30⟩] at k; exact k)
    · refine jx_iconst (v := 1) d_K_codeOf_15 (by decide) ?_
      exact jx_iret d_K_codeOf_16 rfl (by omega) (by omega) (by rw [sp_co, if_pos ⟨e, c12⟩] at k; exact k)
end CK6
section CK7
variable {G : jx_G} {d a lo far nF sz nS nA : Nat} {la wi en pe lr fr tk lc db fc le : Int32} {gt lt t v key : Int64} {fo : Nat → Nat} {fd : sp_fd} {fw : Nat → Nat → Int64} {sn ac : Nat → Int64} {M : jx_H} {Z : Option Value → jx_H → Nat → Prop}
theorem c_K_turn1 (k : Z none M sz) : jx_Cr md_K_turnAway G d [.ref a, .int 1, .long key, .long t, .long v] M sz 0 0 Z := by
  refine jx_ent rfl (Nat.le_of_ble_eq_true rfl) (l := [some (.ref a), some (.int 1), some (.long key), none, some (.long t), none, some (.long v), none]) (by simp [jx_le, jx_eas, Value.category]) (fun hlt => ?_)
  refine jx_iload_n (i := 1) d_K_turnAway_0 rfl rfl ?_
  refine jx_tableOut (tgt := 124) d_K_turnAway_1 (by decide) (by decide) ?_
  exact jx_vret d_K_turnAway_124 rfl (by omega) (by omega) k
theorem c_K_turn2 (hd : 1 < d) (hn : nA < 2 ^ 29) (hK : M a = some (kf_K la wi en pe (a + 1) (a + 2) (a + 3) (a + 5) (a + 7) lr fr gt lt tk lc db fc le)) (hT : M (a + 5) = some (kf_T nA 100 4 (a + 6))) (hC : M (a + 6) = some (kf_la 400 ac)) (k : Z none (jx_up (jx_up M (a + 5) (kf_T (nA + 1) 100 4 (a + 6))) (a + 6) (kf_la 400 (sp_pa ac nA key t v (-1)))) sz) : jx_Cr md_K_turnAway G d [.ref a, .int 2, .long key, .long t, .long v] M sz 0 0 Z := by
  refine jx_ent rfl (Nat.le_of_ble_eq_true rfl) (l := [some (.ref a), some (.int 2), some (.long key), none, some (.long t), none, some (.long v), none]) (by simp [jx_le, jx_eas, Value.category]) (fun hlt => ?_)
  refine jx_iload_n (i := 1) d_K_turnAway_0 rfl rfl ?_
  refine jx_tableIn (tgt := 36) d_K_turnAway_1 (by decide) (by decide) rfl (by decide) ?_
  refine jx_aload_n (i := 0) d_K_turnAway_36 rfl rfl ?_
  refine jx_lload_n (i := 2) d_K_turnAway_37 rfl rfl ?_
  refine jx_lload d_K_turnAway_38 rfl ?_
  refine jx_lload d_K_turnAway_40 rfl ?_
  refine jx_iconst (v := (-1)) d_K_turnAway_42 (by decide) ?_
  refine jx_callV4 d_K_turnAway_43 mv_K_278 hK rfl (jx_ok_rm (by omega) (Nat.le_of_ble_eq_true rfl)) (Nat.le_of_ble_eq_true rfl) (jx_rmc (by omega)) (jx_rms (by omega)) (c_K_putAside (d := 1) (by omega) hn hK hT hC ?_)
  dsimp only [Option.toList, List.cons_append, List.nil_append]
  refine jx_goto (tgt := 124) d_K_turnAway_46 (by decide) ?_
  exact jx_vret d_K_turnAway_124 rfl (by omega) (by omega) k
theorem c_K_turn3 {fl kl so ao oo : Nat} (hK : M a = some (kf_K la wi en pe fl kl so ao oo lr fr gt lt tk lc db fc le)) (k : Z none (jx_up M a (kf_K la wi en pe fl kl so ao oo lr fr gt lt tk lc (db + 1) fc le)) sz) : jx_Cr md_K_turnAway G d [.ref a, .int 3, .long key, .long t, .long v] M sz 0 0 Z := by
  refine jx_ent rfl (Nat.le_of_ble_eq_true rfl) (l := [some (.ref a), some (.int 3), some (.long key), none, some (.long t), none, some (.long v), none]) (by simp [jx_le, jx_eas, Value.category]) (fun hlt => ?_)
  refine jx_iload_n (i := 1) d_K_turnAway_0 rfl rfl ?_
  refine jx_tableIn (tgt := 49) d_K_turnAway_1 (by decide) (by decide) rfl (by decide) ?_
  refine jx_aload_n (i := 0) d_K_turnAway_49 rfl rfl ?_
  refine jx_dup d_K_turnAway_50 rfl ?_
  refine jx_getf d_K_turnAway_51 gf_K_60 hK rfl ?_
  refine jx_iconst (v := 1) d_K_turnAway_54 (by decide) ?_
  refine jx_iadd d_K_turnAway_55 ?_
  refine jx_putf d_K_turnAway_56 pf_K_60 hK (Nat.le_of_ble_eq_true rfl) rfl rfl ?_
  refine jx_goto (tgt := 124) d_K_turnAway_59 (by decide) ?_
  exact jx_vret d_K_turnAway_124 rfl (by omega) (by omega) k
theorem c_K_turn4 (hn : nS < 512) (hd : 0 < d) (hK : M a = some (kf_K la wi en pe (a + 1) (a + 2) (a + 3) (a + 5) (a + 7) lr fr gt lt tk lc db fc le)) (hS : M (a + 3) = some (kf_S (a + 4) nS)) (hs : M (a + 4) = some (kf_la 512 sn)) (k : Z none (jx_up (jx_up (jx_up M a (kf_K la wi en pe (a + 1) (a + 2) (a + 3) (a + 5) (a + 7) lr fr gt lt tk lc db (fc + 1) le)) (a + 4) (kf_la 512 (vp_updL sn nS key))) (a + 3) (kf_S (a + 4) (nS + 1))) sz) : jx_Cr md_K_turnAway G d [.ref a, .int 4, .long key, .long t, .long v] M sz 0 0 Z := by
  refine jx_ent rfl (Nat.le_of_ble_eq_true rfl) (l := [some (.ref a), some (.int 4), some (.long key), none, some (.long t), none, some (.long v), none]) (by simp [jx_le, jx_eas, Value.category]) (fun hlt => ?_)
  refine jx_iload_n (i := 1) d_K_turnAway_0 rfl rfl ?_
  refine jx_tableIn (tgt := 62) d_K_turnAway_1 (by decide) (by decide) rfl (by decide) ?_
  have hS1 : jx_up M a (kf_K la wi en pe (a + 1) (a + 2) (a + 3) (a + 5) (a + 7) lr fr gt lt tk lc db (fc + 1) le) (a + 3) = some (kf_S (a + 4) nS) := (jx_up_n _ _ (by omega)).trans hS
  have hs1 : jx_up M a (kf_K la wi en pe (a + 1) (a + 2) (a + 3) (a + 5) (a + 7) lr fr gt lt tk lc db (fc + 1) le) (a + 4) = some (kf_la 512 sn) := (jx_up_n _ _ (by omega)).trans hs
  refine jx_aload_n (i := 0) d_K_turnAway_62 rfl rfl ?_
  refine jx_dup d_K_turnAway_63 rfl ?_
  refine jx_getf d_K_turnAway_64 gf_K_63 hK rfl ?_
  refine jx_iconst (v := 1) d_K_turnAway_67 (by decide) ?_
  refine jx_iadd d_K_turnAway_68 ?_
  refine jx_putf d_K_turnAway_69 pf_K_63 hK (Nat.le_of_ble_eq_true rfl) rfl rfl ?_
  refine jx_aload_n (i := 0) d_K_turnAway_72 rfl rfl ?_
  refine jx_getf d_K_turnAway_73 gf_K_22 (jx_up_s _ _ _) rfl ?_
  refine jx_lload_n (i := 2) d_K_turnAway_76 rfl rfl ?_
  refine jx_callV1 d_K_turnAway_77 mv_K_282 hS1 rfl (jx_ok_rm (by omega) (Nat.le_of_ble_eq_true rfl)) (Nat.le_of_ble_eq_true rfl) (jx_rmc (by omega)) (jx_rms (by omega)) (c_S_add (d := 0) hn hS1 hs1 (by omega) ?_)
  dsimp only [Option.toList, List.cons_append, List.nil_append]
  refine jx_goto (tgt := 124) d_K_turnAway_80 (by decide) ?_
  exact jx_vret d_K_turnAway_124 rfl (by omega) (by omega) k
theorem c_K_turn5 (hd : 3 < d) (hn : nA < 2 ^ 29) (hK : M a = some (kf_K la wi en pe (a + 1) (a + 2) (a + 3) (a + 5) (a + 7) lr fr gt lt tk lc db fc le)) (hF : kC_F G M a lo far nF fo fd fw) (hT : M (a + 5) = some (kf_T nA 100 4 (a + 6))) (hC : M (a + 6) = some (kf_la 400 ac)) (k : Z none (jx_up (jx_up (jx_up M a (kf_K la wi en pe (a + 1) (a + 2) (a + 3) (a + 5) (a + 7) lr fr gt lt tk lc db (fc + 1) le)) (a + 5) (kf_T (nA + 1) 100 4 (a + 6))) (a + 6) (kf_la 400 (sp_pa ac nA key t v (kf_ix (sp_ix (sp_ff fd fw v) nF)).toInt64))) sz) : jx_Cr md_K_turnAway G d [.ref a, .int 5, .long key, .long t, .long v] M sz 0 0 Z := by
  refine jx_ent rfl (Nat.le_of_ble_eq_true rfl) (l := [some (.ref a), some (.int 5), some (.long key), none, some (.long t), none, some (.long v), none]) (by simp [jx_le, jx_eas, Value.category]) (fun hlt => ?_)
  refine jx_iload_n (i := 1) d_K_turnAway_0 rfl rfl ?_
  refine jx_tableIn (tgt := 83) d_K_turnAway_1 (by decide) (by decide) rfl (by decide) ?_
  have hF1 := hF.to (M' := jx_up M a (kf_K la wi en pe (a + 1) (a + 2) (a + 3) (a + 5) (a + 7) lr fr gt lt tk lc db (fc + 1) le)) (fun q hq => jx_up_n _ _ (by omega))
  refine jx_aload_n (i := 0) d_K_turnAway_83 rfl rfl ?_
  refine jx_dup d_K_turnAway_84 rfl ?_
  refine jx_getf d_K_turnAway_85 gf_K_63 hK rfl ?_
  refine jx_iconst (v := 1) d_K_turnAway_88 (by decide) ?_
  refine jx_iadd d_K_turnAway_89 ?_
  refine jx_putf d_K_turnAway_90 pf_K_63 hK (Nat.le_of_ble_eq_true rfl) rfl rfl ?_
  refine jx_aload_n (i := 0) d_K_turnAway_93 rfl rfl ?_
  refine jx_lload_n (i := 2) d_K_turnAway_94 rfl rfl ?_
  refine jx_lload d_K_turnAway_95 rfl ?_
  refine jx_lload d_K_turnAway_97 rfl ?_
  refine jx_aload_n (i := 0) d_K_turnAway_99 rfl rfl ?_
  refine jx_lload d_K_turnAway_100 rfl ?_
  refine jx_callV1 d_K_turnAway_102 mv_K_275 (jx_up_s _ _ _) rfl (jx_ok_rm (by omega) (Nat.le_of_ble_eq_true rfl)) (Nat.le_of_ble_eq_true rfl) (jx_rmc (by omega)) (jx_rms (by omega)) (c_K_causeOf (d := 3) (by omega) (jx_up_s _ _ _) hF1.1 hF1.2.1 ?_)
  dsimp only [Option.toList, List.cons_append, List.nil_append]
  refine jx_callV4 d_K_turnAway_105 mv_K_278 (jx_up_s _ _ _) rfl (jx_ok_rm (by omega) (Nat.le_of_ble_eq_true rfl)) (Nat.le_of_ble_eq_true rfl) (jx_rmc (by omega)) (jx_rms (by omega)) (c_K_putAside (d := 1) (by omega) hn (jx_up_s _ _ _) ((jx_up_n _ _ (by omega)).trans hT) ((jx_up_n _ _ (by omega)).trans hC) ?_)
  dsimp only [Option.toList, List.cons_append, List.nil_append]
  refine jx_goto (tgt := 124) d_K_turnAway_108 (by decide) ?_
  exact jx_vret d_K_turnAway_124 rfl (by omega) (by omega) k
theorem c_K_turn6 {fl kl so ao oo : Nat} (hK : M a = some (kf_K la wi en pe fl kl so ao oo lr fr gt lt tk lc db fc le)) (k : Z none (jx_up M a (kf_K la wi en pe fl kl so ao oo lr fr gt lt tk lc db (fc + 1) le)) sz) : jx_Cr md_K_turnAway G d [.ref a, .int 6, .long key, .long t, .long v] M sz 0 0 Z := by
  refine jx_ent rfl (Nat.le_of_ble_eq_true rfl) (l := [some (.ref a), some (.int 6), some (.long key), none, some (.long t), none, some (.long v), none]) (by simp [jx_le, jx_eas, Value.category]) (fun hlt => ?_)
  refine jx_iload_n (i := 1) d_K_turnAway_0 rfl rfl ?_
  refine jx_tableIn (tgt := 111) d_K_turnAway_1 (by decide) (by decide) rfl (by decide) ?_
  refine jx_aload_n (i := 0) d_K_turnAway_111 rfl rfl ?_
  refine jx_dup d_K_turnAway_112 rfl ?_
  refine jx_getf d_K_turnAway_113 gf_K_63 hK rfl ?_
  refine jx_iconst (v := 1) d_K_turnAway_116 (by decide) ?_
  refine jx_iadd d_K_turnAway_117 ?_
  refine jx_putf d_K_turnAway_118 pf_K_63 hK (Nat.le_of_ble_eq_true rfl) rfl rfl ?_
  refine jx_goto (tgt := 124) d_K_turnAway_121 (by decide) ?_
  exact jx_vret d_K_turnAway_124 rfl (by omega) (by omega) k
end CK7
