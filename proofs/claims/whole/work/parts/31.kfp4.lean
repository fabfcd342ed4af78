/-! PART 31: KeyedFolds: fold, the constructor -/
theorem jx_callIN0 {y y2 : jx_md} {hh : jx_h4} {G : jx_G} {d2 : Nat} {R : Room} {Q : Array Value → State → List Frame → State → Prop} {pc : Nat} {l : List (Option Value)} {rest : List Value} {M : jx_H} {sz kc ks mc2 ms2 : Nat} {idx : Nat} {b : Nat} {host : String} (dc : decode y.2.1 pc = .ok (.invokespecial idx, 3)) (l1 : Cond.methodLinkNest y.1.cls idx y2.1 host ∈ jx_nb) (l2 : Cond.code y2.1 y2.2.1 y2.2.2.1 y2.2.2.2 ∈ jx_tb) (l3 : Cond.initialized y2.1.cls ∈ jx_tb) (l4 : y2.1.cls ≠ "java/lang/invoke/MethodHandle" ∧ y2.1.cls ≠ "java/lang/invoke/VarHandle" ∧ (parseMethodDescriptor y2.1.desc).map (fun d => d.parameters.length) = some 0) (l5 : y2.1.name = "<init>") (l6 : Cond.instanceMethod y2.1 ∈ jx_tb) (l7 : y2.2.2.2 = none) (ok : jx_ok R d2 y2.2.2.1) (hw : (rest.map fun v => v.category).sum ≤ 8) (h1 : kc + mc2 ≤ R.cells) (h2 : ks + ms2 ≤ R.slots) (ct : jx_Cr y2 G d2 (.ref b :: []) M sz mc2 ms2 (fun v M' sz' => jx_V y hh G R Q (pc + 3) l (v.toList ++ rest) M' sz' (kc + mc2) (ks + ms2))) : jx_V y hh G R Q pc l (.ref b :: rest) M sz kc ks := by
  intro p L e s m args below meth c CC K H locs ls hR hS hL
  obtain ⟨hx, hb, hr, hml, hown, hts, hlk, hnm, hex, hst⟩ := id CC
  have hG : GoodIn jx_tb (jx_cw y2) := by
    intro w hw
    rcases List.mem_cons.mp hw with h | h
    · subst h
      exact ⟨l2, jx_good _ l2⟩
    · exact ⟨h, jx_good _ h⟩
  have cb : va_CN R s args y.1.cls idx y2.1 host y2.2.1 y2.2.2.1 y2.2.2.2 (jx_cw y2) (jx_rm d2 mc2 ms2) mc2 ms2 0 := va_cnB 0 hts hG rfl rfl rfl (K.2.1 _ l1) (hts _ l3) l4 ok
  rw [l7] at cb
  refine jx_back CC K hS hL (va_runIN (As := []) (b := b) (rest := rest) (Ts := jx_tb) ⟨hx, hb, hml, hown, hts⟩ (ct L hst) ⟨cb, l5, hts _ l6⟩ ⟨jx_blind, jx_pcU K hR hS⟩ rfl rfl hL.1 rfl (lv_room (m := m) (pc := pc) (ls := ls) (rest := rest) hw) dc ⟨h1, h2⟩) (fun v M' sz' h => h)
abbrev kf_K0 : jx_E := .inl (4, [.int 0, .int 0, .int 0, .int 0, .null, .null, .null, .null, .null, .int 0, .int 0, .long 0, .long 0, .int 0, .int 0, .int 0, .int 0, .int 0])
section CP4
variable {G : jx_G} {d a lo far kar nF nK sz nS nA nO : Nat} {la wi en pe lr fr tk lc db fc le x x2 x3 x4 : Int32} {gt lt s0 p0 : Int64} {fo ko : Nat → Nat} {nm : Nat → Int64} {kd : Nat → sp_key} {fd : sp_fd} {fw : Nat → Nat → Int64} {sn ac oc : Nat → Int64} {M : jx_H} {Z : Option Value → jx_H → Nat → Prop} {ZX : String → jx_H → Nat → Prop}
theorem c_K_fold (hd : 6 < d) (hls : lo ≤ sz) (hK : M a = some (kf_K la wi en pe (a + 1) (a + 2) (a + 3) (a + 5) (a + 7) lr fr gt lt tk lc db fc le)) (hF : kC_F G M a lo far nF fo fd fw) (hQ : ∃ mo, M (a + 2) = some (kf_A mo kar nK)) (hnK : nK < 2 ^ 31)
    (k : ∀ kn, kn ≤ 8 → x = nI kn → nF < 6 → nK = 0 → ∀ M' sz' far', kC_F G M' a sz' far' (nF + 1) (va_up fo nF sz) (va_up fd nF (kn, s0, p0, 0, sz + 1)) (va_up fw nF (fun _ => 0)) → (∀ q, q < a + 24 → q ≠ a + 1 → M' q = M q) → sz ≤ sz' → Z (some (.int (nI nF))) M' sz')
    (k1 : ¬ (¬ x < 0 ∧ x ≤ 8) → ∀ sz', sz ≤ sz' → ZX xIA M sz') (k2 : (¬ x < 0 ∧ x ≤ 8) → ¬ (nF < 6 ∧ nK = 0) → ∀ sz', sz ≤ sz' → ZX xIS M sz') : jx_Cx md_K_fold G d [.ref a, .int x, .long s0, .long p0] M sz 3 54 Z ZX := by
  refine jx_entx rfl (Nat.le_of_ble_eq_true rfl) (l := [some (.ref a), some (.int x), some (.long s0), none, some (.long p0), none]) (by simp [jx_le, jx_eas, Value.category]) (fun hlt => ?_)
  have hnF := hF.1.2.1
  have hlo := hF.2.2.1
  obtain ⟨mo, hA⟩ := hF.1.1.1
  have hasz := hlt a _ hK
  refine jx_eano (fun hE => ?_)
  refine jx_iload_n (i := 1) d_K_fold_0 rfl rfl ?_
  refine jx_if_lt (tgt := 10) d_K_fold_1 (by decide) (fun c1 => ?_) (fun c1 => ?_)
  · exact jx_throw tl_IA ts_87 d_K_fold_10 d_K_fold_13 d_K_fold_14 d_K_fold_16 d_K_fold_19 (by omega) (by omega) (by omega) (k1 (fun h => h.1 c1))
  · refine jx_iload_n (i := 1) d_K_fold_4 rfl rfl ?_
    refine jx_bipush (v := 8) d_K_fold_5 (by decide) ?_
    refine jx_icmp_le (tgt := 20) d_K_fold_7 (by decide) (fun c7 => ?_) (fun c7 => ?_)
    · refine jx_aload_n (i := 0) d_K_fold_20 rfl rfl ?_
      refine jx_getf d_K_fold_21 gf_K_10 hK rfl ?_
      refine jx_callV0 d_K_fold_24 mv_K_92 hA rfl (jx_ok_rm (by omega) (Nat.le_of_ble_eq_true rfl)) (Nat.le_of_ble_eq_true rfl) (jx_rmc (by omega)) (jx_rms (by omega)) (c_L_size (d := 0) hF.1.1 ?_)
      dsimp only [Option.toList, List.cons_append, List.nil_append]
      refine jx_bipush (v := 6) d_K_fold_27 (by decide) ?_
      refine jx_icmp_lt (tgt := 42) d_K_fold_29 (by decide) (fun c29 => ?_) (fun c29 => ?_)
      · have h6 : nF < 6 := (nI_ltI (b := 6) (by omega) (by omega)).mp c29
        obtain ⟨moK, hAK⟩ := hQ
        refine jx_aload_n (i := 0) d_K_fold_42 rfl rfl ?_
        refine jx_getf d_K_fold_43 gf_K_16 hK rfl ?_
        refine jx_callV0 d_K_fold_46 mv_K_101 hAK rfl (jx_ok_rm (by omega) (Nat.le_of_ble_eq_true rfl)) (Nat.le_of_ble_eq_true rfl) (jx_rmc (by omega)) (jx_rms (by omega)) (c_A_isEmpty (d := 0) hnK hAK ?_)
        dsimp only [Option.toList, List.cons_append, List.nil_append]
        refine jx_if_ne (tgt := 62) d_K_fold_49 (by decide) (fun c49 => ?_) (fun c49 => ?_)
        · have htk : nK = 0 := of_decide_eq_true (kf_b_ne0 c49)
          obtain ⟨kn, hkn, hx⟩ := nI_of2 (M := 8) (n := 8) (by decide) c1 c7
          subst hx
          refine jx_aload_n (i := 0) d_K_fold_62 rfl rfl ?_
          refine jx_getf d_K_fold_63 gf_K_10 hK rfl ?_
          refine jx_new (k := 0) nt_F d_K_fold_66 rfl nw_F no_F nk_K_107 ni_F nd_F nz_F (jx_rmc (by omega)) (jx_rms (by omega)) (fun hno => ?_)
          refine jx_dup d_K_fold_69 rfl ?_
          refine jx_iload_n (i := 1) d_K_fold_70 rfl rfl ?_
          refine jx_lload_n (i := 2) d_K_fold_71 rfl rfl ?_
          refine jx_lload d_K_fold_72 rfl ?_
          have hne0 : ∀ q e, M q = some e → q ≠ sz := fun q e h => Nat.ne_of_lt (hlt q e h)
          refine jx_callI3 d_K_fold_74 mi_K_109 (jx_ok_rm (by omega) (Nat.le_of_ble_eq_true rfl)) (Nat.le_of_ble_eq_true rfl) (jx_rmc (by omega)) (jx_rms (by omega)) (c_F_init (d := 0) (jx_up_s _ _ _) ?_)
          dsimp only [Option.toList, List.cons_append, List.nil_append]
          rw [jx_up_c _ _ _ (show sz ≠ sz + 1 by omega), jx_up_u]
          generalize hM1 : jx_up (jx_up M (sz + 1) (kf_la 4 (fun _ => 0))) sz (kf_F (nI kn) s0 p0 0 (sz + 1)) = M1
          have hf1 : ∀ q, q < sz → M1 q = M q := fun q hq => by rw [← hM1, jx_up_n _ _ (by omega), jx_up_n _ _ (by omega)]
          have hv1 : M1 sz = some (kf_F (nI kn) s0 p0 0 (sz + 1)) := by rw [← hM1, jx_up_s]
          have hv2 : M1 (sz + 1) = some (kf_la 4 (fun _ => 0)) := by rw [← hM1, jx_up_n _ _ (by omega), jx_up_s]
          have hL1 : kf_L G M1 0 (a + 1) far nF fo := by
            obtain ⟨⟨mo, g1⟩, g2⟩ := hF.1.1
            refine ⟨⟨mo, by rw [hf1 _ (hlt _ _ g1)]; exact g1⟩, ?_⟩
            rcases g2 with g2 | ⟨N, f, e1, e2⟩
            · exact Or.inl g2
            · exact Or.inr ⟨N, f, by rw [hf1 _ (hlt _ _ e1)]; exact e1, e2⟩
          obtain ⟨mo1, hA1⟩ := hL1.1
          refine jx_eano (fun hE1 => ?_)
          refine jx_callV1 d_K_fold_77 mv_K_112 hA1 rfl (jx_ok_rm (by omega) (Nat.le_of_ble_eq_true rfl)) (Nat.le_of_ble_eq_true rfl) (jx_rmc (by omega)) (jx_rms (by omega)) (c_A_add (d := 6) (by omega) (by omega) hL1 hv1 rfl (by omega) nx_F_java_lang_Object (fun i hi => ⟨_, by have := (hF.1.2.2 i hi).2; rw [hf1 _ (hlt _ _ this)]; exact this⟩) ?_)
          dsimp only [Option.toList, List.cons_append, List.nil_append]
          intro M2 sz2 far2 hL2 hf2 hk2 hs2 hs2' hlt2
          try dsimp only [Option.toList, List.cons_append, List.nil_append]
          refine jx_eano (fun hE2 => ?_)
          have hfr : ∀ q, q < sz + 2 → q ≠ a + 1 → (q ≠ far ∨ far = jx_ea G) → M2 q = M1 q := by
            intro q q1 q2 q3
            by_cases q4 : q = far
            · rcases q3 with q3 | q3
              · exact absurd q4 q3
              · rw [q4, q3, hE2, hE1]
            · exact hf2 q q2 q4 q1
          have hL2n : ∃ N f, M2 far2 = some (kf_oa N f) := by
            rcases hL2.2 with w | ⟨N, f, w, -⟩
            · omega
            · exact ⟨N, f, w⟩
          have hfz : ∀ q, sz ≤ q → q ≠ far ∨ far = jx_ea G := by
            intro q hq
            rcases hF.2.2.2.1 with z | z
            · exact Or.inr z.2
            · exact Or.inl (by omega)
          have hfs : ∀ q, q < a + 24 → q ≠ far ∨ far = jx_ea G := by
            intro q hq
            rcases hF.2.2.2.1 with z | z
            · exact Or.inr z.2
            · exact Or.inl (by omega)
          have hfo2 : ∀ i, i < nF → M2 (fo i) = M (fo i) ∧ M2 (fo i + 1) = M (fo i + 1) := by
            intro i hi
            obtain ⟨b1, b2, b3⟩ := hF.2.2.2.2.1 i hi
            have h1 := (hF.1.2.2 i hi).2
            have h2 := (hF.2.1 i hi).2
            rw [b3] at h2
            obtain ⟨N, f, e1, -⟩ := hF.1.1.2.resolve_left (by omega)
            have n1 : fo i ≠ far := fun h => by rw [← h, h1] at e1; cases e1
            have n2 : fo i + 1 ≠ far := fun h => by rw [← h, h2] at e1; cases e1
            exact ⟨by rw [hfr _ (by omega) (by omega) (Or.inl n1), hf1 _ (by omega)], by rw [hfr _ (by omega) (by omega) (Or.inl n2), hf1 _ (by omega)]⟩
          have hC2 : kC_F G M2 a sz2 far2 (nF + 1) (va_up fo nF sz) (va_up fd nF (kn, s0, p0, 0, sz + 1)) (va_up fw nF (fun _ => 0)) := by
            refine ⟨⟨hL2, by omega, fun i hi => ?_⟩, fun i hi => ?_, by omega, Or.inr ?_, fun i hi => ?_, fun i j hij hj => ?_⟩
            · by_cases hin : i = nF
              · subst hin
                rw [va_up_s, va_up_s, hfr _ (by omega) (by omega) (hfz _ (Nat.le_refl _))]
                exact ⟨hkn, hv1⟩
              · rw [va_up_n _ _ hin, va_up_n _ _ hin, (hfo2 i (by omega)).1]
                exact hF.1.2.2 i (by omega)
            · by_cases hin : i = nF
              · subst hin
                rw [va_up_s, va_up_s]
                refine ⟨Nat.zero_le _, ?_⟩
                show M2 (sz + 1) = _
                rw [hfr _ (by omega) (by omega) (hfz _ (by omega))]
                exact hv2
              · rw [va_up_n _ _ hin, va_up_n _ _ hin]
                have h2 := hF.2.1 i (by omega)
                rw [(hF.2.2.2.2.1 i (by omega)).2.2] at h2 ⊢
                rw [(hfo2 i (by omega)).2]
                exact h2
            · obtain ⟨N, f, w⟩ := hL2n
              have hl9 := hlt2 _ _ w
              rcases hk2 with hk2 | hk2
              · rcases hF.2.2.2.1 with z | z
                · rw [hk2, z.2, hE2] at w
                  cases w
                · omega
              · omega
            · by_cases hin : i = nF
              · subst hin
                rw [va_up_s, va_up_s]
                exact ⟨by omega, by omega, rfl⟩
              · rw [va_up_n _ _ hin, va_up_n _ _ hin]
                have := hF.2.2.2.2.1 i (by omega)
                exact ⟨this.1, by omega, this.2.2⟩
            · rw [va_up_n _ _ (show i ≠ nF by omega)]
              by_cases hin : j = nF
              · subst hin
                rw [va_up_s]
                have := hF.2.2.2.2.1 i (by omega)
                omega
              · rw [va_up_n _ _ hin]
                exact hF.2.2.2.2.2 i j hij (by omega)
          have hK2 : M2 a = some (kf_K la wi en pe (a + 1) (a + 2) (a + 3) (a + 5) (a + 7) lr fr gt lt tk lc db fc le) := by
            rw [hfr _ (by omega) (by omega) (hfs _ (by omega)), hf1 _ (by omega)]
            exact hK
          obtain ⟨mo2, hA2⟩ := hL2.1
          refine jx_pop d_K_fold_80 rfl ?_
          refine jx_aload_n (i := 0) d_K_fold_81 rfl rfl ?_
          refine jx_getf d_K_fold_82 gf_K_10 hK2 rfl ?_
          refine jx_callV0 d_K_fold_85 mv_K_92 hA2 rfl (jx_ok_rm (by omega) (Nat.le_of_ble_eq_true rfl)) (Nat.le_of_ble_eq_true rfl) (jx_rmc (by omega)) (jx_rms (by omega)) (c_L_size (d := 0) hL2 ?_)
          dsimp only [Option.toList, List.cons_append, List.nil_append]
          refine jx_iconst (v := 1) d_K_fold_88 (by decide) ?_
          refine jx_isub d_K_fold_89 ?_
          rw [nI_pred]
          refine jx_q2 ?_
          exact jx_iret d_K_fold_90 rfl (by omega) (by omega) (k kn hkn rfl h6 htk M2 sz2 far2 hC2 (fun q q1 q2 => by rw [hfr _ (by omega) q2 (hfs _ (by omega)), hf1 _ (by omega)]) (by omega))
        · exact jx_throw tl_IS ts_105 d_K_fold_52 d_K_fold_55 d_K_fold_56 d_K_fold_58 d_K_fold_61 (by omega) (by omega) (by omega) (k2 ⟨c1, c7⟩ (fun h => of_decide_eq_false (kf_b_ne c49) h.2))
      · exact jx_throw tl_IS ts_98 d_K_fold_32 d_K_fold_35 d_K_fold_36 d_K_fold_38 d_K_fold_41 (by omega) (by omega) (by omega) (k2 ⟨c1, c7⟩ (fun h => c29 ((nI_ltI (b := 6) (by omega) (by omega)).mpr h.1)))
    · exact jx_throw tl_IA ts_87 d_K_fold_10 d_K_fold_13 d_K_fold_14 d_K_fold_16 d_K_fold_19 (by omega) (by omega) (by omega) (k1 (fun h => c7 h.2))
theorem v_K_init (hd : 2 < d) {fl kl so ao oo : Nat} {kc ks : Nat} (hkc : kc ≤ 8) (hks : ks ≤ 4000) (hK : M a = some (.inl (4, [.int 0, .int 0, .int 0, .int 0, .ref fl, .ref kl, .ref so, .ref ao, .ref oo, .int 0, .int 0, .long 0, .long 0, .int 0, .int 0, .int 0, .int 0, .int 0]))) (k : Z none (jx_up M a (kf_K (sp_cl x) (sp_cl x2) (sp_cl x3) (sp_cl x4) fl kl so ao oo 0 0 (-1) 0 0 0 0 0 0)) sz) : jx_V md_K_init [] G (jx_rm d 8 4000) (jx_Q1 G 8 4000 Z) 67 [some (.ref a), some (.int x), some (.int x2), some (.int x3), some (.int x4)] [] M sz kc ks := by
  refine jx_aload_n (i := 0) d_K_init_67 rfl rfl ?_
  refine jx_iconst (v := 0) d_K_init_68 (by decide) ?_
  refine jx_putf d_K_init_69 pf_K_38 hK (Nat.le_of_ble_eq_true rfl) rfl rfl ?_
  refine jx_aload_n (i := 0) d_K_init_72 rfl rfl ?_
  refine jx_iconst (v := 0) d_K_init_73 (by decide) ?_
  refine jx_putf d_K_init_74 pf_K_42 (jx_up_s _ _ _) (Nat.le_of_ble_eq_true rfl) rfl rfl ?_
  refine jx_aload_n (i := 0) d_K_init_77 rfl rfl ?_
  refine jx_ldc2 d_K_init_78 rfl nv_K_45 ?_
  refine jx_putf d_K_init_81 pf_K_47 (jx_up_s _ _ _) (Nat.le_of_ble_eq_true rfl) rfl rfl ?_
  simp only [jx_up_u]
  refine jx_aload_n (i := 0) d_K_init_84 rfl rfl ?_
  refine jx_lconst (v := 0) d_K_init_85 (by decide) ?_
  refine jx_putf d_K_init_86 pf_K_51 (jx_up_s _ _ _) (Nat.le_of_ble_eq_true rfl) rfl rfl ?_
  refine jx_aload_n (i := 0) d_K_init_89 rfl rfl ?_
  refine jx_iconst (v := 0) d_K_init_90 (by decide) ?_
  refine jx_putf d_K_init_91 pf_K_54 (jx_up_s _ _ _) (Nat.le_of_ble_eq_true rfl) rfl rfl ?_
  refine jx_aload_n (i := 0) d_K_init_94 rfl rfl ?_
  refine jx_iconst (v := 0) d_K_init_95 (by decide) ?_
  refine jx_putf d_K_init_96 pf_K_57 (jx_up_s _ _ _) (Nat.le_of_ble_eq_true rfl) rfl rfl ?_
  simp only [jx_up_u]
  refine jx_aload_n (i := 0) d_K_init_99 rfl rfl ?_
  refine jx_iconst (v := 0) d_K_init_100 (by decide) ?_
  refine jx_putf d_K_init_101 pf_K_60 (jx_up_s _ _ _) (Nat.le_of_ble_eq_true rfl) rfl rfl ?_
  refine jx_aload_n (i := 0) d_K_init_104 rfl rfl ?_
  refine jx_iconst (v := 0) d_K_init_105 (by decide) ?_
  refine jx_putf d_K_init_106 pf_K_63 (jx_up_s _ _ _) (Nat.le_of_ble_eq_true rfl) rfl rfl ?_
  refine jx_aload_n (i := 0) d_K_init_109 rfl rfl ?_
  refine jx_iconst (v := 0) d_K_init_110 (by decide) ?_
  refine jx_putf d_K_init_111 pf_K_66 (jx_up_s _ _ _) (Nat.le_of_ble_eq_true rfl) rfl rfl ?_
  refine jx_aload_n (i := 0) d_K_init_114 rfl rfl ?_
  refine jx_iload_n (i := 1) d_K_init_115 rfl rfl ?_
  simp only [jx_up_u]
  refine jx_callS1 d_K_init_116 ms_K_69 (jx_ok_rm (by omega) (Nat.le_of_ble_eq_true rfl)) (Nat.le_of_ble_eq_true rfl) (jx_rmc (by omega)) (jx_rms (by omega)) (c_K_withinSettings (d := 1) (by omega) ?_)
  dsimp only [Option.toList, List.cons_append, List.nil_append]
  refine jx_putf d_K_init_119 pf_K_73 (jx_up_s _ _ _) (Nat.le_of_ble_eq_true rfl) rfl rfl ?_
  refine jx_aload_n (i := 0) d_K_init_122 rfl rfl ?_
  refine jx_iload_n (i := 2) d_K_init_123 rfl rfl ?_
  refine jx_callS1 d_K_init_124 ms_K_69 (jx_ok_rm (by omega) (Nat.le_of_ble_eq_true rfl)) (Nat.le_of_ble_eq_true rfl) (jx_rmc (by omega)) (jx_rms (by omega)) (c_K_withinSettings (d := 1) (by omega) ?_)
  dsimp only [Option.toList, List.cons_append, List.nil_append]
  refine jx_putf d_K_init_127 pf_K_76 (jx_up_s _ _ _) (Nat.le_of_ble_eq_true rfl) rfl rfl ?_
  refine jx_aload_n (i := 0) d_K_init_130 rfl rfl ?_
  refine jx_iload_n (i := 3) d_K_init_131 rfl rfl ?_
  simp only [jx_up_u]
  refine jx_callS1 d_K_init_132 ms_K_69 (jx_ok_rm (by omega) (Nat.le_of_ble_eq_true rfl)) (Nat.le_of_ble_eq_true rfl) (jx_rmc (by omega)) (jx_rms (by omega)) (c_K_withinSettings (d := 1) (by omega) ?_)
  dsimp only [Option.toList, List.cons_append, List.nil_append]
  refine jx_putf d_K_init_135 pf_K_79 (jx_up_s _ _ _) (Nat.le_of_ble_eq_true rfl) rfl rfl ?_
  refine jx_aload_n (i := 0) d_K_init_138 rfl rfl ?_
  refine jx_iload d_K_init_139 rfl ?_
  refine jx_callS1 d_K_init_141 ms_K_69 (jx_ok_rm (by omega) (Nat.le_of_ble_eq_true rfl)) (Nat.le_of_ble_eq_true rfl) (jx_rmc (by omega)) (jx_rms (by omega)) (c_K_withinSettings (d := 1) (by omega) ?_)
  dsimp only [Option.toList, List.cons_append, List.nil_append]
  refine jx_putf d_K_init_144 pf_K_82 (jx_up_s _ _ _) (Nat.le_of_ble_eq_true rfl) rfl rfl ?_
  simp only [jx_up_u]
  exact jx_vret d_K_init_147 rfl (by omega) (by omega) k
theorem c_K_init (hd : 2 < d) (hsz : sz = a + 1) (hK : M a = some (kf_K0)) (k : ∀ M', M' a = some (kf_K (sp_cl x) (sp_cl x2) (sp_cl x3) (sp_cl x4) (a + 1) (a + 2) (a + 3) (a + 5) (a + 7) 0 0 (-1) 0 0 0 0 0 0) → M' (a + 1) = some (kf_A 0 (jx_ea G) 0) → M' (a + 2) = some (kf_A 0 (jx_ea G) 0) → M' (a + 3) = some (kf_S (a + 4) 0) → M' (a + 4) = some (kf_la 512 (fun _ => 0)) → M' (a + 5) = some (kf_T 0 100 4 (a + 6)) → M' (a + 6) = some (kf_la 400 (fun _ => 0)) → M' (a + 7) = some (kf_T 0 300 8 (a + 8)) → M' (a + 8) = some (kf_la 2400 (fun _ => 0)) → (∀ q, q < a → M' q = M q) → Z none M' (a + 9)) : jx_Cr md_K_init G d [.ref a, .int x, .int x2, .int x3, .int x4] M sz 8 4000 Z := by
  subst hsz
  refine jx_ent rfl (Nat.le_of_ble_eq_true rfl) (l := [some (.ref a), some (.int x), some (.int x2), some (.int x3), some (.int x4)]) (by simp [jx_le, jx_eas, Value.category]) (fun hlt => ?_)
  refine jx_aload_n (i := 0) d_K_init_0 rfl rfl ?_
  refine jx_objInit d_K_init_1 mo_K_1 (Nat.succ_le_succ (Nat.zero_le _)) (jx_rml (Nat.le_of_ble_eq_true rfl)) ?_
  refine jx_aload_n (i := 0) d_K_init_4 rfl rfl ?_
  refine jx_new (k := 6) nt_A d_K_init_5 rfl nw_A no_A nk_K_7 ni_A nd_A nz_A (jx_rmc (by omega)) (jx_rms (by omega)) (fun hno => ?_)
  refine jx_dup d_K_init_8 rfl ?_
  refine jx_callI0 d_K_init_9 mi_K_9 (jx_ok_rm (by omega) (Nat.le_of_ble_eq_true rfl)) (Nat.le_of_ble_eq_true rfl) (jx_rmc (by omega)) (jx_rms (by omega)) (c_A_init (d := 2) (by omega) (jx_up_s _ _ _) ?_)
  dsimp only [Option.toList, List.cons_append, List.nil_append]
  refine jx_putf d_K_init_12 pf_K_10 ((jx_up_n _ _ (by omega)).trans ((jx_up_n _ _ (by omega)).trans (hK))) (Nat.le_of_ble_eq_true rfl) rfl rfl ?_
  refine jx_aload_n (i := 0) d_K_init_15 rfl rfl ?_
  refine jx_new (k := 6) nt_A d_K_init_16 rfl nw_A no_A nk_K_7 ni_A nd_A nz_A (jx_rmc (by omega)) (jx_rms (by omega)) (fun hno => ?_)
  refine jx_dup d_K_init_19 rfl ?_
  refine jx_callI0 d_K_init_20 mi_K_9 (jx_ok_rm (by omega) (Nat.le_of_ble_eq_true rfl)) (Nat.le_of_ble_eq_true rfl) (jx_rmc (by omega)) (jx_rms (by omega)) (c_A_init (d := 2) (by omega) (jx_up_s _ _ _) ?_)
  dsimp only [Option.toList, List.cons_append, List.nil_append]
  refine jx_putf d_K_init_23 pf_K_16 ((jx_up_n _ _ (by omega)).trans ((jx_up_n _ _ (by omega)).trans (jx_up_s _ _ _))) (Nat.le_of_ble_eq_true rfl) rfl rfl ?_
  refine jx_aload_n (i := 0) d_K_init_26 rfl rfl ?_
  refine jx_new (k := 2) nt_S d_K_init_27 rfl nw_S no_S nk_K_19 ni_S nd_S nz_S (jx_rmc (by omega)) (jx_rms (by omega)) (fun hno => ?_)
  refine jx_dup d_K_init_30 rfl ?_
  refine jx_callIN0 (y2 := md_S_init) (host := "KeyedFolds") d_K_init_31 (jx_nbm 58 (by decide +kernel) rfl) (jx_mem 60 (by decide +kernel) rfl) (jx_mem 5 (by decide +kernel) rfl) ⟨by decide, by decide, by decide +kernel⟩ rfl (jx_mem 59 (by decide +kernel) rfl) rfl (jx_ok_rm (by omega) (Nat.le_of_ble_eq_true rfl)) (Nat.le_of_ble_eq_true rfl) (jx_rmc (by omega)) (jx_rms (by omega)) (c_S_init (d := 0) (jx_up_s _ _ _) ?_)
  dsimp only [Option.toList, List.cons_append, List.nil_append]
  refine jx_putf d_K_init_34 pf_K_22 ((jx_up_n _ _ (by omega)).trans ((jx_up_n _ _ (by omega)).trans ((jx_up_n _ _ (by omega)).trans (jx_up_s _ _ _)))) (Nat.le_of_ble_eq_true rfl) rfl rfl ?_
  refine jx_aload_n (i := 0) d_K_init_37 rfl rfl ?_
  refine jx_new (k := 3) nt_T d_K_init_38 rfl nw_T no_T nk_K_26 ni_T nd_T nz_T (jx_rmc (by omega)) (jx_rms (by omega)) (fun hno => ?_)
  refine jx_dup d_K_init_41 rfl ?_
  refine jx_bipush (v := 100) d_K_init_42 (by decide) ?_
  refine jx_iconst (v := 4) d_K_init_44 (by decide) ?_
  refine jx_callI2 d_K_init_45 mi_K_28 (jx_ok_rm (by omega) (Nat.le_of_ble_eq_true rfl)) (Nat.le_of_ble_eq_true rfl) (jx_rmc (by omega)) (jx_rms (by omega)) (c_T_init (d := 0) (li := 100) (wi := 4) (by omega) (by omega) (by omega) (jx_up_s _ _ _) ?_)
  dsimp only [Option.toList, List.cons_append, List.nil_append]
  refine jx_putf d_K_init_48 pf_K_31 ((jx_up_n _ _ (by omega)).trans ((jx_up_n _ _ (by omega)).trans ((jx_up_n _ _ (by omega)).trans (jx_up_s _ _ _)))) (Nat.le_of_ble_eq_true rfl) rfl rfl ?_
  refine jx_aload_n (i := 0) d_K_init_51 rfl rfl ?_
  refine jx_new (k := 3) nt_T d_K_init_52 rfl nw_T no_T nk_K_26 ni_T nd_T nz_T (jx_rmc (by omega)) (jx_rms (by omega)) (fun hno => ?_)
  refine jx_dup d_K_init_55 rfl ?_
  refine jx_sipush (v := 300) d_K_init_56 (by decide) ?_
  refine jx_bipush (v := 8) d_K_init_59 (by decide) ?_
  refine jx_callI2 d_K_init_61 mi_K_28 (jx_ok_rm (by omega) (Nat.le_of_ble_eq_true rfl)) (Nat.le_of_ble_eq_true rfl) (jx_rmc (by omega)) (jx_rms (by omega)) (c_T_init (d := 0) (li := 300) (wi := 8) (by omega) (by omega) (by omega) (jx_up_s _ _ _) ?_)
  dsimp only [Option.toList, List.cons_append, List.nil_append]
  refine jx_putf d_K_init_64 pf_K_35 ((jx_up_n _ _ (by omega)).trans ((jx_up_n _ _ (by omega)).trans ((jx_up_n _ _ (by omega)).trans (jx_up_s _ _ _)))) (Nat.le_of_ble_eq_true rfl) rfl rfl ?_
  refine v_K_init hd (by omega) (by omega) (jx_up_s _ _ _) ?_
  refine k _ (jx_up_s _ _ _) ?_ ?_ ?_ ?_ ?_ ?_ ?_ ?_ ?_
  · simp [jx_up]
  · simp [jx_up]
  · simp [jx_up]
  · simp [jx_up]
  · simp [jx_up]
  · simp [jx_up]
  · simp [jx_up]
  · simp [jx_up]
  · intro q hq
    simp only [jx_up]
    repeat rw [if_neg (by omega)]
end CP4
