/-! PART 43: the reference: isDouble, joined, fold, failsAt -/
section CM7
variable {G : jx_G} {d b nF nK sz nS nA nO : Nat} {la wi en pe cd lr fr tk lc db fc le x x2 cs : Int32} {gt lt t v key s0 p0 : Int64} {nm : Nat → Int64} {kd : Nat → sp_key} {fd : sp_fd} {fw : Nat → Nat → Int64} {sn ac oc : Nat → Int64} {M : jx_H} {Z : Option Value → jx_H → Nat → Prop}
theorem c_M_isDouble {r : Option Nat} {n : Nat} (hr : sp_ix (fun j => nm j == key) nK = r) (ht : t = lN n) (hn : n ≤ 2 ^ 40) (hI : ∀ j, j < nK → ∀ i, i < (kd j).1 → ∃ q, q ≤ 2 ^ 40 ∧ (kd j).2.2.1 i = lN q) (hN : mW M b la wi en pe cd lr fr gt lt tk lc db fc le nF fd fw nK nm kd nS sn nA ac nO oc) (k : Z (some (.int (kf_b (sp_db nK nm kd key t v en)))) M sz) : jx_Cr md_M_isDouble G d [.ref b, .int (kf_ix r), .long t, .long v] M sz 0 0 Z := by
  refine jx_ent rfl (Nat.le_of_ble_eq_true rfl) (l := [some (.ref b), some (.int (kf_ix r)), some (.long t), none, some (.long v), none, none, none, none, none]) (by simp [jx_le, jx_eas, Value.category]) (fun hlt => ?_)
  obtain ⟨mk, ki, st, nu, fa, fl, nn, si, wo, ti, va, so, hmk, hB, hO, hF, hK, hS5, hS⟩ := id hN
  obtain ⟨h1, h2, h3, h4, h5, h6, h7, h8, h9, h10, h11, h12, h13⟩ := id hO
  have hnK := hK.1
  cases r with
  | none =>
    refine jx_iconst (v := 0) d_M_isDouble_0 (by decide) ?_
    refine jx_istore d_M_isDouble_1 (Nat.le_of_ble_eq_true rfl) (jx_e10_6 (by trivial)) ?_
    refine jx_iconst (v := 0) d_M_isDouble_3 (by decide) ?_
    refine jx_istore d_M_isDouble_4 (Nat.le_of_ble_eq_true rfl) (jx_e10_7 (by trivial)) ?_
    refine jx_iload_n (i := 1) d_M_isDouble_6 rfl rfl ?_
    refine jx_iconst (v := (-1)) d_M_isDouble_7 (by decide) ?_
    refine jx_icmp_eq (tgt := 96) d_M_isDouble_8 (by decide) (fun c8 => ?_) (fun c8 => ?_)
    · refine jx_iload d_M_isDouble_96 rfl ?_
      exact jx_zret d_M_isDouble_98 rfl (by first | exact Or.inl rfl | exact Or.inr rfl) (by omega) (by omega) (by rw [sp_db, hr] at k; exact k)
    · exact absurd kf_ix_none c8
  | some j =>
    have hjK := (sp_ix_lt hr).1
    obtain ⟨g1, g2, g3, g4, g5⟩ := hK.2.1 j hjK
    have kk : Z (some (.int (kf_b (sp_ex (fun i => va (62 * j + i) == v && decide ((if t - ti (62 * j + i) < 0 then -(t - ti (62 * j + i)) else t - ti (62 * j + i)) < en.toInt64)) (kd j).1)))) M sz := by
      rw [sp_db, hr] at k
      rw [sp_ex_congr (P' := fun i => (kd j).2.2.2.1 i == v && decide (sp_abs ((kd j).2.2.1 i - t) < en.toInt64))]
      · exact k
      · intro i hi
        obtain ⟨q, hq, hqe⟩ := hI j hjK i hi
        rw [(g5 i hi).1, (g5 i hi).2, hqe, ht, sp_abs_eq hq hn]
    have loop : ∀ (r i : Nat), i + r = (kd j).1 → jx_V md_M_isDouble [] G (jx_rm d 0 0) (jx_Q1 G 0 0 Z) 6 [some (.ref b), some (.int (nI j)), some (.long t), none, some (.long v), none, some (.int (kf_b (sp_ex (fun i => va (62 * j + i) == v && decide ((if t - ti (62 * j + i) < 0 then -(t - ti (62 * j + i)) else t - ti (62 * j + i)) < en.toInt64)) i))), some (.int (nI i)), none, none] [] M sz 0 0 := by
      intro r
      induction r with
      | zero =>
        intro i hi
        refine jx_iload_n (i := 1) d_M_isDouble_6 rfl rfl ?_
        refine jx_iconst (v := (-1)) d_M_isDouble_7 (by decide) ?_
        refine jx_icmp_eq (tgt := 96) d_M_isDouble_8 (by decide) (fun c8 => ?_) (fun c8 => ?_)
        · exact absurd c8 (nI_m1 (by omega))
        · refine jx_iload d_M_isDouble_11 rfl ?_
          refine jx_aload_n (i := 0) d_M_isDouble_13 rfl rfl ?_
          refine jx_getf d_M_isDouble_14 gf_M_29 hB rfl ?_
          refine jx_iload_n (i := 1) d_M_isDouble_17 rfl rfl ?_
          refine jx_ialdj d_M_isDouble_18 h7 rfl (by omega) (by omega) ?_
          refine jx_icmp_ge (tgt := 96) d_M_isDouble_19 (by decide) (fun c19 => ?_) (fun c19 => ?_)
          · refine jx_iload d_M_isDouble_96 rfl ?_
            exact jx_zret d_M_isDouble_98 rfl (kf_b01 _) (by omega) (by omega) (by rw [show (kd j).1 = i by omega] at kk; exact kk)
          · rw [g3] at c19
            exact absurd ((nI_leI (by omega) (by omega)).mpr (by omega)) c19
      | succ r ih =>
        intro i hi
        refine jx_iload_n (i := 1) d_M_isDouble_6 rfl rfl ?_
        refine jx_iconst (v := (-1)) d_M_isDouble_7 (by decide) ?_
        refine jx_icmp_eq (tgt := 96) d_M_isDouble_8 (by decide) (fun c8 => ?_) (fun c8 => ?_)
        · exact absurd c8 (nI_m1 (by omega))
        · refine jx_iload d_M_isDouble_11 rfl ?_
          refine jx_aload_n (i := 0) d_M_isDouble_13 rfl rfl ?_
          refine jx_getf d_M_isDouble_14 gf_M_29 hB rfl ?_
          refine jx_iload_n (i := 1) d_M_isDouble_17 rfl rfl ?_
          refine jx_ialdj d_M_isDouble_18 h7 rfl (by omega) (by omega) ?_
          refine jx_icmp_ge (tgt := 96) d_M_isDouble_19 (by decide) (fun c19 => ?_) (fun c19 => ?_)
          · rw [g3] at c19
            exact absurd ((nI_leI (by omega) (by omega)).mp c19) (by omega)
          · have nx := ih (i + 1) (by omega)
            have fin : ∀ (bo : Bool), (va (62 * j + i) == v && decide ((if t - ti (62 * j + i) < 0 then -(t - ti (62 * j + i)) else t - ti (62 * j + i)) < en.toInt64)) = bo → jx_V md_M_isDouble [] G (jx_rm d 0 0) (jx_Q1 G 0 0 Z) 87 [some (.ref b), some (.int (nI j)), some (.long t), none, some (.long v), none, some (.int (kf_b (sp_ex (fun i => va (62 * j + i) == v && decide ((if t - ti (62 * j + i) < 0 then -(t - ti (62 * j + i)) else t - ti (62 * j + i)) < en.toInt64)) i))), some (.int (nI i)), some (.long (t - ti (62 * j + i))), none] [.int (kf_b bo), .int (kf_b (sp_ex (fun i => va (62 * j + i) == v && decide ((if t - ti (62 * j + i) < 0 then -(t - ti (62 * j + i)) else t - ti (62 * j + i)) < en.toInt64)) i))] M sz 0 0 := by
              intro bo hbo
              refine jx_ior d_M_isDouble_87 ?_
              refine jx_istore d_M_isDouble_88 (Nat.le_of_ble_eq_true rfl) (jx_e10_6 (by trivial)) ?_
              refine jx_iinc d_M_isDouble_90 rfl (Nat.le_of_ble_eq_true rfl) (jx_e10_7 (by trivial)) ?_
              refine jx_goto (tgt := 6) d_M_isDouble_93 (by decide) ?_
              rw [kf_b_or]
              refine jx_wk (l' := [some (.ref b), some (.int (nI j)), some (.long t), none, some (.long v), none, some (.int (kf_b (sp_ex (fun i => va (62 * j + i) == v && decide ((if t - ti (62 * j + i) < 0 then -(t - ti (62 * j + i)) else t - ti (62 * j + i)) < en.toInt64)) (i + 1)))), some (.int (nI (i + 1))), none, none]) ?_ nx
              simp [jx_le, nI_1, sp_ex, ← hbo]
            refine jx_lload_n (i := 2) d_M_isDouble_22 rfl rfl ?_
            refine jx_aload_n (i := 0) d_M_isDouble_23 rfl rfl ?_
            refine jx_getf d_M_isDouble_24 gf_M_35 hB rfl ?_
            refine jx_bipush (v := 62) d_M_isDouble_27 (by decide) ?_
            refine jx_iload_n (i := 1) d_M_isDouble_29 rfl rfl ?_
            refine jx_imul d_M_isDouble_30 ?_
            refine jx_iload d_M_isDouble_31 rfl ?_
            refine jx_iadd d_M_isDouble_33 ?_
            refine jx_laldj d_M_isDouble_34 h9 (e62 _ _) (by omega) (by omega) ?_
            refine jx_lsub d_M_isDouble_35 ?_
            refine jx_lstore d_M_isDouble_36 (Nat.le_of_ble_eq_true rfl) (jx_f10_8 (by trivial)) ?_
            refine jx_iload d_M_isDouble_38 rfl ?_
            refine jx_aload_n (i := 0) d_M_isDouble_40 rfl rfl ?_
            refine jx_getf d_M_isDouble_41 gf_M_38 hB rfl ?_
            refine jx_bipush (v := 62) d_M_isDouble_44 (by decide) ?_
            refine jx_iload_n (i := 1) d_M_isDouble_46 rfl rfl ?_
            refine jx_imul d_M_isDouble_47 ?_
            refine jx_iload d_M_isDouble_48 rfl ?_
            refine jx_iadd d_M_isDouble_50 ?_
            refine jx_laldj d_M_isDouble_51 h10 (e62 _ _) (by omega) (by omega) ?_
            refine jx_lload d_M_isDouble_52 rfl ?_
            refine jx_l_ne (tgt := 86) d_M_isDouble_54 d_M_isDouble_55 (by decide) (fun c54 => ?_) (fun c54 => ?_)
            · refine jx_iconst (v := 0) d_M_isDouble_86 (by decide) ?_
              exact fin false (by simp [c54])
            · refine jx_lload d_M_isDouble_58 rfl ?_
              refine jx_lconst (v := 0) d_M_isDouble_60 (by decide) ?_
              refine jx_l_ge (tgt := 71) d_M_isDouble_61 d_M_isDouble_62 (by decide) (fun c61 => ?_) (fun c61 => ?_)
              · have hnn : ¬ t - ti (62 * j + i) < 0 := fun h => l_nle h c61
                refine jx_lload d_M_isDouble_71 rfl ?_
                refine jx_aload_n (i := 0) d_M_isDouble_73 rfl rfl ?_
                refine jx_getf d_M_isDouble_74 gf_M_61 hB rfl ?_
                refine jx_i2l d_M_isDouble_77 ?_
                refine jx_l_ge (tgt := 86) d_M_isDouble_78 d_M_isDouble_79 (by decide) (fun c78 => ?_) (fun c78 => ?_)
                · refine jx_iconst (v := 0) d_M_isDouble_86 (by decide) ?_
                  refine fin false ?_
                  rw [if_neg hnn]
                  simp [c54]
                  exact c78
                · refine jx_iconst (v := 1) d_M_isDouble_82 (by decide) ?_
                  refine jx_goto (tgt := 87) d_M_isDouble_83 (by decide) ?_
                  refine fin true ?_
                  rw [if_neg hnn]
                  simp [c54]
                  exact l_gt c78
              · have hnn : t - ti (62 * j + i) < 0 := l_gt c61
                refine jx_lload d_M_isDouble_65 rfl ?_
                refine jx_lneg d_M_isDouble_67 ?_
                refine jx_goto (tgt := 73) d_M_isDouble_68 (by decide) ?_
                refine jx_aload_n (i := 0) d_M_isDouble_73 rfl rfl ?_
                refine jx_getf d_M_isDouble_74 gf_M_61 hB rfl ?_
                refine jx_i2l d_M_isDouble_77 ?_
                refine jx_l_ge (tgt := 86) d_M_isDouble_78 d_M_isDouble_79 (by decide) (fun c78 => ?_) (fun c78 => ?_)
                · refine jx_iconst (v := 0) d_M_isDouble_86 (by decide) ?_
                  refine fin false ?_
                  rw [if_pos hnn]
                  simpa [c54] using c78
                · refine jx_iconst (v := 1) d_M_isDouble_82 (by decide) ?_
                  refine jx_goto (tgt := 87) d_M_isDouble_83 (by decide) ?_
                  refine fin true ?_
                  rw [if_pos hnn]
                  simpa [c54] using l_gt c78
    refine jx_iconst (v := 0) d_M_isDouble_0 (by decide) ?_
    refine jx_istore d_M_isDouble_1 (Nat.le_of_ble_eq_true rfl) (jx_e10_6 (by trivial)) ?_
    refine jx_iconst (v := 0) d_M_isDouble_3 (by decide) ?_
    refine jx_istore d_M_isDouble_4 (Nat.le_of_ble_eq_true rfl) (jx_e10_7 (by trivial)) ?_
    exact loop (kd j).1 0 (by omega)
theorem c_M_fold (hN : mW M b la wi en pe cd lr fr gt lt tk lc db fc le nF fd fw nK nm kd nS sn nA ac nO oc)
    (k : ∀ kn, kn ≤ 8 → x = nI kn → nF < 6 → ¬ 0 < tk → ∀ M', (∀ (ad : Nat) (w0 : Nat → Int64), mW M' b la wi en pe 0 lr fr gt lt tk lc db fc le (nF + 1) (va_up fd nF (kn, s0, p0, 0, ad)) (va_up fw nF w0) nK nm kd nS sn nA ac nO oc) → mFr b M M' → Z (some (.int (nI nF))) M' sz)
    (k1 : ¬ (¬ x < 0 ∧ x ≤ 8) → ∀ M', mW M' b la wi en pe 1 lr fr gt lt tk lc db fc le nF fd fw nK nm kd nS sn nA ac nO oc → mFr b M M' → Z (some (.int 0)) M' sz) (k2 : (¬ x < 0 ∧ x ≤ 8) → ¬ (nF < 6 ∧ ¬ 0 < tk) → ∀ M', mW M' b la wi en pe 2 lr fr gt lt tk lc db fc le nF fd fw nK nm kd nS sn nA ac nO oc → mFr b M M' → Z (some (.int 0)) M' sz) : jx_Cr md_M_fold G d [.ref b, .int x, .long s0, .long p0] M sz 0 0 Z := by
  refine jx_ent rfl (Nat.le_of_ble_eq_true rfl) (l := [some (.ref b), some (.int x), some (.long s0), none, some (.long p0), none]) (by simp [jx_le, jx_eas, Value.category]) (fun hlt => ?_)
  obtain ⟨mk, ki, st, nu, fa, fl, nn, si, wo, ti, va, so, hmk, hB, hO, hF, hK, hS5, hS⟩ := id hN
  obtain ⟨h1, h2, h3, h4, h5, h6, h7, h8, h9, h10, h11, h12, h13⟩ := id hO
  have hU : ∀ cd' : Int32, mW (jx_up M b (kf_M la wi en pe cd' nF b lr fr nK nS (kf_b (sp_wm gt)) mk lt nA nO tk lc db fc le)) b la wi en pe cd' lr fr gt lt tk lc db fc le nF fd fw nK nm kd nS sn nA ac nO oc := fun cd' => ⟨mk, ki, st, nu, fa, fl, nn, si, wo, ti, va, so, hmk, jx_up_s _ _ _, hO.to (fun q q1 q2 => jx_up_n _ _ (by omega)), hF, hK, hS5, hS⟩
  have hnF := hF.1
  have bad1 : ¬ (¬ x < 0 ∧ x ≤ 8) → jx_V md_M_fold [] G (jx_rm d 0 0) (jx_Q1 G 0 0 Z) 11 [some (.ref b), some (.int x), some (.long s0), none, some (.long p0), none] [.ref b] M sz 0 0 := by
    intro hn
    refine jx_iconst (v := 1) d_M_fold_11 (by decide) ?_
    refine jx_goto (tgt := 36) d_M_fold_12 (by decide) ?_
    refine jx_putf d_M_fold_36 pf_M_67 hB (Nat.le_of_ble_eq_true rfl) rfl rfl ?_
    refine jx_aload_n (i := 0) d_M_fold_39 rfl rfl ?_
    refine jx_getf d_M_fold_40 gf_M_67 (jx_up_s _ _ _) rfl ?_
    refine jx_if_le (tgt := 48) d_M_fold_43 (by decide) (fun c43 => ?_) (fun c43 => ?_)
    · exact absurd c43 (by decide)
    · refine jx_iconst (v := 0) d_M_fold_46 (by decide) ?_
      exact jx_iret d_M_fold_47 rfl (by omega) (by omega) (k1 hn _ (hU 1) (fun q hq => jx_up_n _ _ (by omega)))
  have bad2 : (¬ x < 0 ∧ x ≤ 8) → ¬ (nF < 6 ∧ ¬ 0 < tk) → jx_V md_M_fold [] G (jx_rm d 0 0) (jx_Q1 G 0 0 Z) 31 [some (.ref b), some (.int x), some (.long s0), none, some (.long p0), none] [.ref b] M sz 0 0 := by
    intro hm hn
    refine jx_iconst (v := 2) d_M_fold_31 (by decide) ?_
    refine jx_goto (tgt := 36) d_M_fold_32 (by decide) ?_
    refine jx_putf d_M_fold_36 pf_M_67 hB (Nat.le_of_ble_eq_true rfl) rfl rfl ?_
    refine jx_aload_n (i := 0) d_M_fold_39 rfl rfl ?_
    refine jx_getf d_M_fold_40 gf_M_67 (jx_up_s _ _ _) rfl ?_
    refine jx_if_le (tgt := 48) d_M_fold_43 (by decide) (fun c43 => ?_) (fun c43 => ?_)
    · exact absurd c43 (by decide)
    · refine jx_iconst (v := 0) d_M_fold_46 (by decide) ?_
      exact jx_iret d_M_fold_47 rfl (by omega) (by omega) (k2 hm hn _ (hU 2) (fun q hq => jx_up_n _ _ (by omega)))
  refine jx_aload_n (i := 0) d_M_fold_0 rfl rfl ?_
  refine jx_iload_n (i := 1) d_M_fold_1 rfl rfl ?_
  refine jx_if_lt (tgt := 11) d_M_fold_2 (by decide) (fun c2 => ?_) (fun c2 => ?_)
  · exact bad1 (fun h => h.1 c2)
  · refine jx_iload_n (i := 1) d_M_fold_5 rfl rfl ?_
    refine jx_bipush (v := 8) d_M_fold_6 (by decide) ?_
    refine jx_icmp_le (tgt := 15) d_M_fold_8 (by decide) (fun c8 => ?_) (fun c8 => ?_)
    · refine jx_aload_n (i := 0) d_M_fold_15 rfl rfl ?_
      refine jx_getf d_M_fold_16 gf_M_71 hB rfl ?_
      refine jx_bipush (v := 6) d_M_fold_19 (by decide) ?_
      refine jx_icmp_eq (tgt := 31) d_M_fold_21 (by decide) (fun c21 => ?_) (fun c21 => ?_)
      · exact bad2 ⟨c2, c8⟩ (fun h => by
          have := (nI_eq (a := nF) (b := 6) (by omega) (by omega)).mp c21
          omega)
      · have h6 : nF < 6 := by
          have : nF ≠ 6 := fun h => c21 (by rw [h]; rfl)
          omega
        refine jx_aload_n (i := 0) d_M_fold_24 rfl rfl ?_
        refine jx_getf d_M_fold_25 gf_M_80 hB rfl ?_
        refine jx_if_le (tgt := 35) d_M_fold_28 (by decide) (fun c28 => ?_) (fun c28 => ?_)
        · have htk : ¬ 0 < tk := fun h => by
            rw [Int32.lt_iff_toInt_lt] at h
            rw [Int32.le_iff_toInt_le] at c28
            omega
          obtain ⟨kn, hkn, hx⟩ := nI_of2 (M := 8) (n := 8) (by decide) c2 c8
          subst hx
          have uB : ∀ (a9 : Nat) (e : jx_E) (M9 : jx_H), a9 ≠ b → M9 b = some (kf_M la wi en pe 0 nF b lr fr nK nS (kf_b (sp_wm gt)) mk lt nA nO tk lc db fc le) → jx_up M9 a9 e b = some (kf_M la wi en pe 0 nF b lr fr nK nS (kf_b (sp_wm gt)) mk lt nA nO tk lc db fc le) := fun a9 e M9 h9 hb9 => (jx_up_n _ _ (Ne.symm h9)).trans hb9
          refine jx_iconst (v := 0) d_M_fold_35 (by decide) ?_
          refine jx_putf d_M_fold_36 pf_M_67 hB (Nat.le_of_ble_eq_true rfl) rfl rfl ?_
          refine jx_aload_n (i := 0) d_M_fold_39 rfl rfl ?_
          refine jx_getf d_M_fold_40 gf_M_67 (jx_up_s _ _ _) rfl ?_
          refine jx_if_le (tgt := 48) d_M_fold_43 (by decide) (fun c43 => ?_) (fun c43 => ?_)
          · have h6' := hO.2.2.2.2.2.1
            refine jx_aload_n (i := 0) d_M_fold_48 rfl rfl ?_
            refine jx_getf d_M_fold_49 gf_M_7 (jx_up_s _ _ _) rfl ?_
            refine jx_aload_n (i := 0) d_M_fold_52 rfl rfl ?_
            refine jx_getf d_M_fold_53 gf_M_71 (jx_up_s _ _ _) rfl ?_
            refine jx_iload_n (i := 1) d_M_fold_56 rfl rfl ?_
            refine jx_iastj d_M_fold_57 ((jx_up_n _ _ (by omega)).trans h1) rfl h6 (by omega) ?_
            refine jx_aload_n (i := 0) d_M_fold_58 rfl rfl ?_
            refine jx_getf d_M_fold_59 gf_M_13 (uB _ _ _ (by omega) (jx_up_s _ _ _)) rfl ?_
            refine jx_aload_n (i := 0) d_M_fold_62 rfl rfl ?_
            refine jx_getf d_M_fold_63 gf_M_71 (uB _ _ _ (by omega) (jx_up_s _ _ _)) rfl ?_
            refine jx_lload_n (i := 2) d_M_fold_66 rfl rfl ?_
            refine jx_lastj d_M_fold_67 ((jx_up_n _ _ (by omega)).trans ((jx_up_n _ _ (by omega)).trans h2)) rfl h6 (by omega) ?_
            refine jx_aload_n (i := 0) d_M_fold_68 rfl rfl ?_
            refine jx_getf d_M_fold_69 gf_M_17 (uB _ _ _ (by omega) (uB _ _ _ (by omega) (jx_up_s _ _ _))) rfl ?_
            refine jx_aload_n (i := 0) d_M_fold_72 rfl rfl ?_
            refine jx_getf d_M_fold_73 gf_M_71 (uB _ _ _ (by omega) (uB _ _ _ (by omega) (jx_up_s _ _ _))) rfl ?_
            refine jx_lload d_M_fold_76 rfl ?_
            refine jx_lastj d_M_fold_78 ((jx_up_n _ _ (by omega)).trans ((jx_up_n _ _ (by omega)).trans ((jx_up_n _ _ (by omega)).trans h3))) rfl h6 (by omega) ?_
            refine jx_aload_n (i := 0) d_M_fold_79 rfl rfl ?_
            refine jx_dup d_M_fold_80 rfl ?_
            refine jx_getf d_M_fold_81 gf_M_71 (uB _ _ _ (by omega) (uB _ _ _ (by omega) (uB _ _ _ (by omega) (jx_up_s _ _ _)))) rfl ?_
            refine jx_iconst (v := 1) d_M_fold_84 (by decide) ?_
            refine jx_iadd d_M_fold_85 ?_
            refine jx_putf d_M_fold_86 pf_M_71 (uB _ _ _ (by omega) (uB _ _ _ (by omega) (uB _ _ _ (by omega) (jx_up_s _ _ _)))) (Nat.le_of_ble_eq_true rfl) rfl rfl ?_
            refine jx_aload_n (i := 0) d_M_fold_89 rfl rfl ?_
            refine jx_getf d_M_fold_90 gf_M_71 (jx_up_s _ _ _) rfl ?_
            refine jx_iconst (v := 1) d_M_fold_93 (by decide) ?_
            refine jx_isub d_M_fold_94 ?_
            rw [nI_1, nI_pred]
            exact jx_iret d_M_fold_95 rfl (by omega) (by omega) (by
              refine k kn hkn rfl h6 htk _ (fun ad w0 => ?_) (fun q hq => ?_)
              · refine ⟨mk, upd ki nF (nI kn), vp_updL st nF s0, vp_updL nu nF p0, fa, fl, nn, si, wo, ti, va, so, hmk, jx_up_s _ _ _, ⟨?_, ?_, ?_, ?_, ?_, ?_, ?_, ?_, ?_, ?_, ?_, ?_, ?_⟩, ⟨by omega, fun i hi => ?_, fun i hi => ?_⟩, hK, hS5, hS⟩
                · rw [jx_up_n _ _ (by omega), jx_up_n _ _ (by omega), jx_up_n _ _ (by omega), jx_up_s]
                · rw [jx_up_n _ _ (by omega), jx_up_n _ _ (by omega), jx_up_s]
                · rw [jx_up_n _ _ (by omega), jx_up_s]
                · rw [jx_up_n _ _ (by omega), jx_up_n _ _ (by omega), jx_up_n _ _ (by omega), jx_up_n _ _ (by omega), jx_up_n _ _ (by omega)]; exact h4
                · rw [jx_up_n _ _ (by omega), jx_up_n _ _ (by omega), jx_up_n _ _ (by omega), jx_up_n _ _ (by omega), jx_up_n _ _ (by omega)]; exact h5
                · rw [jx_up_n _ _ (by omega), jx_up_n _ _ (by omega), jx_up_n _ _ (by omega), jx_up_n _ _ (by omega), jx_up_n _ _ (by omega)]; exact h6'
                · rw [jx_up_n _ _ (by omega), jx_up_n _ _ (by omega), jx_up_n _ _ (by omega), jx_up_n _ _ (by omega), jx_up_n _ _ (by omega)]; exact h7
                · rw [jx_up_n _ _ (by omega), jx_up_n _ _ (by omega), jx_up_n _ _ (by omega), jx_up_n _ _ (by omega), jx_up_n _ _ (by omega)]; exact h8
                · rw [jx_up_n _ _ (by omega), jx_up_n _ _ (by omega), jx_up_n _ _ (by omega), jx_up_n _ _ (by omega), jx_up_n _ _ (by omega)]; exact h9
                · rw [jx_up_n _ _ (by omega), jx_up_n _ _ (by omega), jx_up_n _ _ (by omega), jx_up_n _ _ (by omega), jx_up_n _ _ (by omega)]; exact h10
                · rw [jx_up_n _ _ (by omega), jx_up_n _ _ (by omega), jx_up_n _ _ (by omega), jx_up_n _ _ (by omega), jx_up_n _ _ (by omega)]; exact h11
                · rw [jx_up_n _ _ (by omega), jx_up_n _ _ (by omega), jx_up_n _ _ (by omega), jx_up_n _ _ (by omega), jx_up_n _ _ (by omega)]; exact h12
                · rw [jx_up_n _ _ (by omega), jx_up_n _ _ (by omega), jx_up_n _ _ (by omega), jx_up_n _ _ (by omega), jx_up_n _ _ (by omega)]; exact h13
                · by_cases hin : i = nF
                  · subst hin
                    rw [va_up_s, upd_s, updL_s, updL_s]
                    exact ⟨hkn, Nat.zero_le _, rfl, rfl, rfl, fun q hq => absurd hq (Nat.not_lt_zero _)⟩
                  · rw [va_up_n _ _ hin, va_up_n _ _ hin, upd_n _ _ hin, updL_n _ _ hin, updL_n _ _ hin]
                    exact hF.2.1 i (by omega)
                · rw [hF.2.2 i hi]
                  by_cases hin : i = nF
                  · subst hin
                    rw [if_neg (by omega), if_pos (by omega), va_up_s]
                  · rw [va_up_n _ _ hin]
                    by_cases h9 : i < nF
                    · rw [if_pos h9, if_pos (by omega)]
                    · rw [if_neg h9, if_neg (by omega)]
              · rw [jx_up_n _ _ (by omega), jx_up_n _ _ (by omega), jx_up_n _ _ (by omega), jx_up_n _ _ (by omega), jx_up_n _ _ (by omega)])
          · exact absurd (by decide) c43
        · exact bad2 ⟨c2, c8⟩ (fun h => by
            have := h.2
            rw [Int32.lt_iff_toInt_lt] at this
            rw [Int32.le_iff_toInt_le] at c28
            omega)
    · exact bad1 (fun h => c8 h.2)
end CM7
