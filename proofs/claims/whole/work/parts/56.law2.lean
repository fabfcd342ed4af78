/-! PART 56: the law: what holds between calls; its reading cases (by wip/whole/gen/ops.py) -/
theorem jx_okl {R : Room} {d2 maxL : Nat} (hRm : 12 ≤ R.frames ∧ 482 ≤ R.locals) (h : d2 ≤ 10) (hm : maxL ≤ 13) : jx_ok R d2 maxL := by
  unfold jx_ok
  omega
def sp_set (la wi en pe : Int32) (A Wd P : Nat) : Prop := (la = nI A ∧ A ≤ 100000) ∧ (wi = nI Wd ∧ Wd ≤ 100000) ∧ pe = nI P ∧ P ≤ 100000
/-- what holds of the state between calls, c calls so far -/
def sp_J (G : jx_G) (c A P kar : Nat) (lr fr : Int32) (gt lt : Int64) (tk : Int32) (nF : Nat) (fd : sp_fd) (nK : Nat) (kd : Nat → sp_key) (nS nA nO g T q : Nat) : Prop :=
  (sp_gt gt g ∧ g ≤ 2 ^ 40 ∧ lt = lN T ∧ T ≤ (g - A) / P * P ∧ P ∣ T) ∧ ((lr = 0 ∨ lr = 1 ∨ lr = 2) ∧ (fr = 0 ∨ fr = 1 ∨ fr = 2)) ∧ (∀ j, j < nK → sp_so (kd j) ∧ sp_tr (kd j) ∧ sp_si fd nF (kd j)) ∧ (nK = 0 → kar = jx_ea G) ∧ (tk = nI q ∧ q ≤ c ∧ (nK ≠ 0 ↔ 0 < q)) ∧ nS ≤ c ∧ nA ≤ c ∧ nO ≤ 600 * c
theorem sp_J.step {G : jx_G} {c A P kar : Nat} {lr fr : Int32} {gt lt : Int64} {tk : Int32} {nF : Nat} {fd : sp_fd} {nK : Nat} {kd : Nat → sp_key} {nS nA nO g T q : Nat} (h : sp_J G c A P kar lr fr gt lt tk nF fd nK kd nS nA nO g T q) : sp_J G (c + 1) A P kar lr fr gt lt tk nF fd nK kd nS nA nO g T q := by
  obtain ⟨a1, a2, a3, a4, ⟨a5, a6, a7⟩, a8, a9, a10⟩ := h
  exact ⟨a1, a2, a3, a4, ⟨a5, by omega, a7⟩, by omega, by omega, by omega⟩
def JI (G : jx_G) (a c : Nat) (la wi en pe : Int32) (A P : Nat) (M : jx_H) (sz : Nat) : Prop :=
  ∃ (lo far kar : Nat) (lr fr : Int32) (gt lt : Int64) (tk lc db fc le : Int32) (nF : Nat) (fo : Nat → Nat) (fd : sp_fd) (fw : Nat → Nat → Int64) (nK : Nat) (ko : Nat → Nat) (nm : Nat → Int64) (kd : Nat → sp_key) (nS : Nat) (sn : Nat → Int64) (nA : Nat) (ac : Nat → Int64) (nO : Nat) (oc : Nat → Int64) (cd : Int32) (ou : Nat → Int64) (g T q : Nat),
    kW G M a lo far kar la wi en pe lr fr gt lt tk lc db fc le nF fo fd fw nK ko nm kd nS sn nA ac nO oc ∧ mW M (a + 9) la wi en pe cd lr fr gt lt tk lc db fc le nF fd fw nK nm kd nS sn nA ac nO oc ∧ M (a + 23) = some (kf_la 1 ou) ∧ lo ≤ sz ∧ sp_J G c A P kar lr fr gt lt tk nF fd nK kd nS nA nO g T q
theorem kW.to {G : jx_G} {M M' : jx_H} {a lo far kar nF nK nS nA nO : Nat} {la wi en pe lr fr tk lc db fc le : Int32} {gt lt : Int64} {fo ko : Nat → Nat} {nm : Nat → Int64} {kd : Nat → sp_key} {fd : sp_fd} {fw : Nat → Nat → Int64} {sn ac oc : Nat → Int64} (h : kW G M a lo far kar la wi en pe lr fr gt lt tk lc db fc le nF fo fd fw nK ko nm kd nS sn nA ac nO oc) (hf : ∀ q, (a ≤ q ∧ q ≤ a + 8) ∨ a + 24 ≤ q → M' q = M q) : kW G M' a lo far kar la wi en pe lr fr gt lt tk lc db fc le nF fo fd fw nK ko nm kd nS sn nA ac nO oc := by
  obtain ⟨w1, w2, w3, w4, w5, w6, w7, w8, w9⟩ := id h
  exact h.set ((hf _ (by omega)).trans w1) ((hf _ (by omega)).trans w2) ((hf _ (by omega)).trans w3) ((hf _ (by omega)).trans w4) ((hf _ (by omega)).trans w5) ((hf _ (by omega)).trans w6) ((hf _ (by omega)).trans w7) (fun q hq => hf q (by omega))
theorem mW.to {M M' : jx_H} {b nF nK nS nA nO : Nat} {la wi en pe cd lr fr tk lc db fc le : Int32} {gt lt : Int64} {nm : Nat → Int64} {kd : Nat → sp_key} {fd : sp_fd} {fw : Nat → Nat → Int64} {sn ac oc : Nat → Int64} (hN : mW M b la wi en pe cd lr fr gt lt tk lc db fc le nF fd fw nK nm kd nS sn nA ac nO oc) (hf : ∀ q, b ≤ q → q ≤ b + 13 → M' q = M q) : mW M' b la wi en pe cd lr fr gt lt tk lc db fc le nF fd fw nK nm kd nS sn nA ac nO oc := by
  obtain ⟨mk, ki, st, nu, fa, fl, nn, si, wo, ti, va, so, hmk, hB, hO, hF, hK, hS5, hS⟩ := id hN
  exact ⟨mk, ki, st, nu, fa, fl, nn, si, wo, ti, va, so, hmk, (hf _ (by omega) (by omega)).trans hB, hO.to (fun q q1 q2 => hf q (by omega) q2), hF, hK, hS5, hS⟩
theorem sp_jn_jo {kn : Nat} {st p : Int64} {f : Nat} {kd : Nat → sp_key} {nK : Nat} (h : ∀ j, j < nK → (kd j).2.2.2.2 f = sp_fb kn st p (kd j).2.2.1 (kd j).2.2.2.1 1125899906842624 (kd j).1) : sp_jn kn st p f kd nK = sp_jo kn st p kd nK := by
  unfold sp_jn sp_jo
  rw [sp_ex_congr (fun j hj => by rw [h j hj])]
theorem pn_fold : md_L_fold.1.cls ≠ "java/lang/invoke/MethodHandle" ∧ md_L_fold.1.cls ≠ "java/lang/invoke/VarHandle" ∧ (parseMethodDescriptor md_L_fold.1.desc).map (fun d => d.parameters.length) = some 5 := ⟨by decide, by decide, by decide +kernel⟩
theorem pn_failsAt : md_L_failsAt.1.cls ≠ "java/lang/invoke/MethodHandle" ∧ md_L_failsAt.1.cls ≠ "java/lang/invoke/VarHandle" ∧ (parseMethodDescriptor md_L_failsAt.1.desc).map (fun d => d.parameters.length) = some 4 := ⟨by decide, by decide, by decide +kernel⟩
theorem pn_rule : md_L_rule.1.cls ≠ "java/lang/invoke/MethodHandle" ∧ md_L_rule.1.cls ≠ "java/lang/invoke/VarHandle" ∧ (parseMethodDescriptor md_L_rule.1.desc).map (fun d => d.parameters.length) = some 4 := ⟨by decide, by decide, by decide +kernel⟩
theorem pn_row : md_L_row.1.cls ≠ "java/lang/invoke/MethodHandle" ∧ md_L_row.1.cls ≠ "java/lang/invoke/VarHandle" ∧ (parseMethodDescriptor md_L_row.1.desc).map (fun d => d.parameters.length) = some 5 := ⟨by decide, by decide, by decide +kernel⟩
theorem pn_resume : md_L_resume.1.cls ≠ "java/lang/invoke/MethodHandle" ∧ md_L_resume.1.cls ≠ "java/lang/invoke/VarHandle" ∧ (parseMethodDescriptor md_L_resume.1.desc).map (fun d => d.parameters.length) = some 2 := ⟨by decide, by decide, by decide +kernel⟩
theorem pn_state : md_L_state.1.cls ≠ "java/lang/invoke/MethodHandle" ∧ md_L_state.1.cls ≠ "java/lang/invoke/VarHandle" ∧ (parseMethodDescriptor md_L_state.1.desc).map (fun d => d.parameters.length) = some 4 := ⟨by decide, by decide, by decide +kernel⟩
theorem pn_key : md_L_key.1.cls ≠ "java/lang/invoke/MethodHandle" ∧ md_L_key.1.cls ≠ "java/lang/invoke/VarHandle" ∧ (parseMethodDescriptor md_L_key.1.desc).map (fun d => d.parameters.length) = some 4 := ⟨by decide, by decide, by decide +kernel⟩
theorem pn_rowOf : md_L_rowOf.1.cls ≠ "java/lang/invoke/MethodHandle" ∧ md_L_rowOf.1.cls ≠ "java/lang/invoke/VarHandle" ∧ (parseMethodDescriptor md_L_rowOf.1.desc).map (fun d => d.parameters.length) = some 5 := ⟨by decide, by decide, by decide +kernel⟩
theorem pn_aside : md_L_aside.1.cls ≠ "java/lang/invoke/MethodHandle" ∧ md_L_aside.1.cls ≠ "java/lang/invoke/VarHandle" ∧ (parseMethodDescriptor md_L_aside.1.desc).map (fun d => d.parameters.length) = some 4 := ⟨by decide, by decide, by decide +kernel⟩
theorem pn_output : md_L_output.1.cls ≠ "java/lang/invoke/MethodHandle" ∧ md_L_output.1.cls ≠ "java/lang/invoke/VarHandle" ∧ (parseMethodDescriptor md_L_output.1.desc).map (fun d => d.parameters.length) = some 4 := ⟨by decide, by decide, by decide +kernel⟩
theorem pn_watermark : md_L_watermark.1.cls ≠ "java/lang/invoke/MethodHandle" ∧ md_L_watermark.1.cls ≠ "java/lang/invoke/VarHandle" ∧ (parseMethodDescriptor md_L_watermark.1.desc).map (fun d => d.parameters.length) = some 2 := ⟨by decide, by decide, by decide +kernel⟩
theorem pn_told : md_L_told.1.cls ≠ "java/lang/invoke/MethodHandle" ∧ md_L_told.1.cls ≠ "java/lang/invoke/VarHandle" ∧ (parseMethodDescriptor md_L_told.1.desc).map (fun d => d.parameters.length) = some 3 := ⟨by decide, by decide, by decide +kernel⟩
theorem pn_folded : md_L_folded.1.cls ≠ "java/lang/invoke/MethodHandle" ∧ md_L_folded.1.cls ≠ "java/lang/invoke/VarHandle" ∧ (parseMethodDescriptor md_L_folded.1.desc).map (fun d => d.parameters.length) = some 3 := ⟨by decide, by decide, by decide +kernel⟩
theorem pn_joined : md_L_joined.1.cls ≠ "java/lang/invoke/MethodHandle" ∧ md_L_joined.1.cls ≠ "java/lang/invoke/VarHandle" ∧ (parseMethodDescriptor md_L_joined.1.desc).map (fun d => d.parameters.length) = some 3 := ⟨by decide, by decide, by decide +kernel⟩
section OPS
variable {G : jx_G} {R : Room} {Q : Array Value → State → List Frame → State → Prop} {a c sz kc ks A Wd P : Nat} {la wi en pe : Int32} {M : jx_H}
theorem o_watermark (hRm : 12 ≤ R.frames ∧ 482 ≤ R.locals) (hc : kc + 5 ≤ R.cells) (hs : ks + 178 ≤ R.slots) (hl : jx_sl G ≤ 3588) (hi : 4 + 7 * c + 7 ≤ jx_sl G) (hset : sp_set la wi en pe A Wd P) (hJ : JI G a c la wi en pe A P M sz) (k : ∀ M' sz', JI G a (c + 1) la wi en pe A P M' sz' → jx_V md_L_law [] G R Q 1411 [some (.ref (jx_sa G)), some (.ref a), some (.ref (a + 9)), some (.ref (a + 23)), some (.int (nI (4 + 7 * c))), none, none, none] [] M' sz' (kc + 5) (ks + 178)) : jx_V md_L_law [] G R Q 1154 [some (.ref (jx_sa G)), some (.ref a), some (.ref (a + 9)), some (.ref (a + 23)), some (.int (nI (4 + 7 * c))), none, none, none] [] M sz kc ks := by
  obtain ⟨lo, far, kar, lr, fr, gt, lt, tk, lc, db, fc, le, nF, fo, fd, fw, nK, ko, nm, kd, nS, sn, nA, ac, nO, oc, cd, ou, g, T, q, hW, hN, hout, hlo, hP⟩ := hJ
  obtain ⟨w1, w2, w3, w4, w5, w6, w7, w8, w9⟩ := id hW
  obtain ⟨hP1, hP2, hq, hP4, hP5, hP6, hP7, hP8⟩ := id hP
  have hnF := w8.1.2.1
  have hnK := w9.2.1
  obtain ⟨mk, ki, st, nu, fa, fl, nn, si, wo, ti, va, so, hmk, hB, -⟩ := id hN
  have fin : ∀ M2 sz2 cd2 ou2, sz ≤ sz2 → mW M2 (a + 9) la wi en pe cd2 lr fr gt lt tk lc db fc le nF fd fw nK nm kd nS sn nA ac nO oc → (∀ q, (a ≤ q ∧ q ≤ a + 8) ∨ a + 24 ≤ q → M2 q = M q) → M2 (a + 23) = some (kf_la 1 ou2) → JI G a (c + 1) la wi en pe A P M2 sz2 := fun M2 sz2 cd2 ou2 s1 s2 s3 s4 => ⟨lo, far, kar, lr, fr, gt, lt, tk, lc, db, fc, le, nF, fo, fd, fw, nK, ko, nm, kd, nS, sn, nA, ac, nO, oc, cd2, ou2, g, T, q, hW.to s3, s2, s4, by omega, hP.step⟩
  refine jx_aload_n (i := 1) d_L_law_1154 rfl rfl ?_
  refine jx_aload_n (i := 3) d_L_law_1155 rfl rfl ?_
  refine jx_callH (hh2 := mh_L_watermark) (As := [.ref a, .ref (a + 23)]) d_L_law_1156 mk_L_125 pn_watermark (jx_okl hRm (show 10 ≤ 10 by omega) (Nat.le_of_ble_eq_true rfl)) rfl rfl (Nat.le_of_ble_eq_true rfl) (by omega) (by omega) (c_L_watermark (d := 10) (by omega) w1 (fun Z2 ZX2 h0 h1 => c_K_watermark (d := 9) (by omega) w1 (fun e1 => h0 _ ou _ _ hout ?_) (fun e1 sz' hsz => h1 _ _ ?_)))
  · try dsimp only [Option.toList, List.cons_append, List.nil_append]
    have hN1 := fun e => hN.to (M' := jx_up M (a + 23) e) (fun q q1 q2 => jx_up_n _ _ (by omega))
    have hB1 := fun e => (jx_up_n M e (show a + 9 ≠ a + 23 by omega)).trans hB
    refine jx_istore d_L_law_1159 (Nat.le_of_ble_eq_true rfl) (jx_e8_5 (by trivial)) ?_
    refine jx_aload_n (i := 2) d_L_law_1161 rfl rfl ?_
    refine jx_callV0 d_L_law_1162 mv_L_128 (hB1 _) rfl (jx_okl hRm (by omega) (Nat.le_of_ble_eq_true rfl)) (Nat.le_of_ble_eq_true rfl) (by omega) (by omega) (c_M_watermark (d := 10) (hN1 _) (fun _ M2 hN2 hf2 => ?_) (fun h => by rw [e1] at h; cases h))
    try dsimp only [Option.toList, List.cons_append, List.nil_append]
    · try dsimp only [Option.toList, List.cons_append, List.nil_append]
      refine jx_lstore d_L_law_1165 (Nat.le_of_ble_eq_true rfl) (jx_f8_6 (by trivial)) ?_
      exact t0_watermark (jx_okl hRm (by omega) (by omega)) (by omega) (by omega) hN2 ((hf2 _ (by omega)).trans (jx_up_s _ _ _)) (jx_wi (by omega) (by omega) (k M2 _ (fin M2 _ _ _ (Nat.le_refl _) hN2 (fun q hq => (hf2 q (by omega)).trans (jx_up_n _ _ (by omega))) ((hf2 _ (by omega)).trans (jx_up_s _ _ _)))))
  · try dsimp only [Option.toList, List.cons_append, List.nil_append]
    have hN1 := hN
    have hB1 := hB
    refine jx_istore d_L_law_1159 (Nat.le_of_ble_eq_true rfl) (jx_e8_5 (by trivial)) ?_
    refine jx_aload_n (i := 2) d_L_law_1161 rfl rfl ?_
    refine jx_callV0 d_L_law_1162 mv_L_128 hB1 rfl (jx_okl hRm (by omega) (Nat.le_of_ble_eq_true rfl)) (Nat.le_of_ble_eq_true rfl) (by omega) (by omega) (c_M_watermark (d := 10) hN1 (fun h => by rw [e1] at h; cases h) (fun _ M2 hN2 hf2 => ?_))
    try dsimp only [Option.toList, List.cons_append, List.nil_append]
    · try dsimp only [Option.toList, List.cons_append, List.nil_append]
      refine jx_lstore d_L_law_1165 (Nat.le_of_ble_eq_true rfl) (jx_f8_6 (by trivial)) ?_
      exact tx_watermark (jx_okl hRm (by omega) (by omega)) (by omega) (by omega) (by decide) hN2 (jx_wi (by omega) (by omega) (k M2 _ (fin M2 _ _ _ hsz hN2 (fun q hq => hf2 q (by omega)) ((hf2 _ (by omega)).trans hout))))
theorem o_key (hRm : 12 ≤ R.frames ∧ 482 ≤ R.locals) (hc : kc + 5 ≤ R.cells) (hs : ks + 178 ≤ R.slots) (hl : jx_sl G ≤ 3588) (hi : 4 + 7 * c + 7 ≤ jx_sl G) (hset : sp_set la wi en pe A Wd P) (hJ : JI G a c la wi en pe A P M sz) (k : ∀ M' sz', JI G a (c + 1) la wi en pe A P M' sz' → jx_V md_L_law [] G R Q 1411 [some (.ref (jx_sa G)), some (.ref a), some (.ref (a + 9)), some (.ref (a + 23)), some (.int (nI (4 + 7 * c))), none, none, none] [] M' sz' (kc + 5) (ks + 178)) : jx_V md_L_law [] G R Q 809 [some (.ref (jx_sa G)), some (.ref a), some (.ref (a + 9)), some (.ref (a + 23)), some (.int (nI (4 + 7 * c))), none, none, none] [] M sz kc ks := by
  obtain ⟨lo, far, kar, lr, fr, gt, lt, tk, lc, db, fc, le, nF, fo, fd, fw, nK, ko, nm, kd, nS, sn, nA, ac, nO, oc, cd, ou, g, T, q, hW, hN, hout, hlo, hP⟩ := hJ
  obtain ⟨w1, w2, w3, w4, w5, w6, w7, w8, w9⟩ := id hW
  obtain ⟨hP1, hP2, hq, hP4, hP5, hP6, hP7, hP8⟩ := id hP
  have hnF := w8.1.2.1
  have hnK := w9.2.1
  obtain ⟨mk, ki, st, nu, fa, fl, nn, si, wo, ti, va, so, hmk, hB, -⟩ := id hN
  have fin : ∀ M2 sz2 cd2 ou2, sz ≤ sz2 → mW M2 (a + 9) la wi en pe cd2 lr fr gt lt tk lc db fc le nF fd fw nK nm kd nS sn nA ac nO oc → (∀ q, (a ≤ q ∧ q ≤ a + 8) ∨ a + 24 ≤ q → M2 q = M q) → M2 (a + 23) = some (kf_la 1 ou2) → JI G a (c + 1) la wi en pe A P M2 sz2 := fun M2 sz2 cd2 ou2 s1 s2 s3 s4 => ⟨lo, far, kar, lr, fr, gt, lt, tk, lc, db, fc, le, nF, fo, fd, fw, nK, ko, nm, kd, nS, sn, nA, ac, nO, oc, cd2, ou2, g, T, q, hW.to s3, s2, s4, by omega, hP.step⟩
  refine jx_aload_n (i := 1) d_L_law_809 rfl rfl ?_
  refine jx_aload_n (i := 0) d_L_law_810 rfl rfl ?_
  refine jx_iload d_L_law_811 rfl ?_
  refine jx_iconst (v := 1) d_L_law_813 (by decide) ?_
  refine jx_iadd d_L_law_814 ?_
  refine jx_sldj d_L_law_815 (es1 _) (by omega) (by assumption) ?_
  refine jx_i2l d_L_law_816 ?_
  refine jx_bipush (v := 32) d_L_law_817 (by decide) ?_
  refine jx_lshl d_L_law_819 ?_
  refine jx_aload_n (i := 0) d_L_law_820 rfl rfl ?_
  refine jx_iload d_L_law_821 rfl ?_
  refine jx_iconst (v := 2) d_L_law_823 (by decide) ?_
  refine jx_iadd d_L_law_824 ?_
  refine jx_sldj d_L_law_825 (es2 _) (by omega) (by assumption) ?_
  refine jx_i2l d_L_law_826 ?_
  refine jx_ldc2 d_L_law_827 rfl nv_L_82 ?_
  refine jx_land d_L_law_830 ?_
  refine jx_lor d_L_law_831 ?_
  refine jx_aload_n (i := 0) d_L_law_832 rfl rfl ?_
  refine jx_iload d_L_law_833 rfl ?_
  refine jx_iconst (v := 3) d_L_law_835 (by decide) ?_
  refine jx_iadd d_L_law_836 ?_
  refine jx_sldj d_L_law_837 (es3 _) (by omega) (by assumption) ?_
  refine jx_aload_n (i := 3) d_L_law_838 rfl rfl ?_
  refine jx_callH (hh2 := mh_L_key) (As := [.ref a, .long _, .int _, .ref (a + 23)]) d_L_law_839 mk_L_112 pn_key (jx_okl hRm (show 10 ≤ 10 by omega) (Nat.le_of_ble_eq_true rfl)) rfl rfl (Nat.le_of_ble_eq_true rfl) (by omega) (by omega) (c_L_key (d := 10) (by omega) w1 (fun Z2 ZX2 h0 h1 => c_K_key (d := 9) (by omega) (by omega) w1 w9 w2 w3 (fun e1 => h0 _ ou _ _ hout ?_) (fun e1 e2 e3 => h0 _ ou _ _ hout ?_) (fun j e1 e2 e3 => h0 _ ou _ _ hout ?_) (fun e1 sz' hsz => h1 _ _ ?_)))
  · try dsimp only [Option.toList, List.cons_append, List.nil_append]
    have hN1 := fun e => hN.to (M' := jx_up M (a + 23) e) (fun q q1 q2 => jx_up_n _ _ (by omega))
    have hB1 := fun e => (jx_up_n M e (show a + 9 ≠ a + 23 by omega)).trans hB
    refine jx_istore d_L_law_842 (Nat.le_of_ble_eq_true rfl) (jx_e8_5 (by trivial)) ?_
    refine jx_aload_n (i := 2) d_L_law_844 rfl rfl ?_
    refine jx_aload_n (i := 0) d_L_law_845 rfl rfl ?_
    refine jx_iload d_L_law_846 rfl ?_
    refine jx_iconst (v := 1) d_L_law_848 (by decide) ?_
    refine jx_iadd d_L_law_849 ?_
    refine jx_sldj d_L_law_850 (es1 _) (by omega) (by assumption) ?_
    refine jx_i2l d_L_law_851 ?_
    refine jx_bipush (v := 32) d_L_law_852 (by decide) ?_
    refine jx_lshl d_L_law_854 ?_
    refine jx_aload_n (i := 0) d_L_law_855 rfl rfl ?_
    refine jx_iload d_L_law_856 rfl ?_
    refine jx_iconst (v := 2) d_L_law_858 (by decide) ?_
    refine jx_iadd d_L_law_859 ?_
    refine jx_sldj d_L_law_860 (es2 _) (by omega) (by assumption) ?_
    refine jx_i2l d_L_law_861 ?_
    refine jx_ldc2 d_L_law_862 rfl nv_L_82 ?_
    refine jx_land d_L_law_865 ?_
    refine jx_lor d_L_law_866 ?_
    refine jx_aload_n (i := 0) d_L_law_867 rfl rfl ?_
    refine jx_iload d_L_law_868 rfl ?_
    refine jx_iconst (v := 3) d_L_law_870 (by decide) ?_
    refine jx_iadd d_L_law_871 ?_
    refine jx_sldj d_L_law_872 (es3 _) (by omega) (by assumption) ?_
    refine jx_callV2 d_L_law_873 mv_L_114 (hB1 _) rfl (jx_okl hRm (by omega) (Nat.le_of_ble_eq_true rfl)) (Nat.le_of_ble_eq_true rfl) (by omega) (by omega) (c_M_key (d := 10) (by omega) (hN1 _) (fun _ M2 hN2 hf2 => ?_) (fun _ h2 => absurd e1 h2) (fun j _ h2 => absurd e1 h2) (fun h => absurd (by rw [e1]; decide) h))
    try dsimp only [Option.toList, List.cons_append, List.nil_append]
    · try dsimp only [Option.toList, List.cons_append, List.nil_append]
      refine jx_istore d_L_law_876 (Nat.le_of_ble_eq_true rfl) (jx_e8_6 (by trivial)) ?_
      exact t0_key (jx_okl hRm (by omega) (by omega)) (by omega) (by omega) hN2 ((hf2 _ (by omega)).trans (jx_up_s _ _ _)) (jx_wi (by omega) (by omega) (k M2 _ (fin M2 _ _ _ (Nat.le_refl _) hN2 (fun q hq => (hf2 q (by omega)).trans (jx_up_n _ _ (by omega))) ((hf2 _ (by omega)).trans (jx_up_s _ _ _)))))
  · try dsimp only [Option.toList, List.cons_append, List.nil_append]
    have hN1 := fun e => hN.to (M' := jx_up M (a + 23) e) (fun q q1 q2 => jx_up_n _ _ (by omega))
    have hB1 := fun e => (jx_up_n M e (show a + 9 ≠ a + 23 by omega)).trans hB
    refine jx_istore d_L_law_842 (Nat.le_of_ble_eq_true rfl) (jx_e8_5 (by trivial)) ?_
    refine jx_aload_n (i := 2) d_L_law_844 rfl rfl ?_
    refine jx_aload_n (i := 0) d_L_law_845 rfl rfl ?_
    refine jx_iload d_L_law_846 rfl ?_
    refine jx_iconst (v := 1) d_L_law_848 (by decide) ?_
    refine jx_iadd d_L_law_849 ?_
    refine jx_sldj d_L_law_850 (es1 _) (by omega) (by assumption) ?_
    refine jx_i2l d_L_law_851 ?_
    refine jx_bipush (v := 32) d_L_law_852 (by decide) ?_
    refine jx_lshl d_L_law_854 ?_
    refine jx_aload_n (i := 0) d_L_law_855 rfl rfl ?_
    refine jx_iload d_L_law_856 rfl ?_
    refine jx_iconst (v := 2) d_L_law_858 (by decide) ?_
    refine jx_iadd d_L_law_859 ?_
    refine jx_sldj d_L_law_860 (es2 _) (by omega) (by assumption) ?_
    refine jx_i2l d_L_law_861 ?_
    refine jx_ldc2 d_L_law_862 rfl nv_L_82 ?_
    refine jx_land d_L_law_865 ?_
    refine jx_lor d_L_law_866 ?_
    refine jx_aload_n (i := 0) d_L_law_867 rfl rfl ?_
    refine jx_iload d_L_law_868 rfl ?_
    refine jx_iconst (v := 3) d_L_law_870 (by decide) ?_
    refine jx_iadd d_L_law_871 ?_
    refine jx_sldj d_L_law_872 (es3 _) (by omega) (by assumption) ?_
    refine jx_callV2 d_L_law_873 mv_L_114 (hB1 _) rfl (jx_okl hRm (by omega) (Nat.le_of_ble_eq_true rfl)) (Nat.le_of_ble_eq_true rfl) (by omega) (by omega) (c_M_key (d := 10) (by omega) (hN1 _) (fun h => absurd h e2) (fun _ _ _ M2 hN2 hf2 => ?_) (fun j _ _ h3 => by rw [e3] at h3; cases h3) (fun h => absurd e1 h))
    try dsimp only [Option.toList, List.cons_append, List.nil_append]
    · try dsimp only [Option.toList, List.cons_append, List.nil_append]
      refine jx_istore d_L_law_876 (Nat.le_of_ble_eq_true rfl) (jx_e8_6 (by trivial)) ?_
      exact t0_key (jx_okl hRm (by omega) (by omega)) (by omega) (by omega) hN2 ((hf2 _ (by omega)).trans (jx_up_s _ _ _)) (jx_wi (by omega) (by omega) (k M2 _ (fin M2 _ _ _ (Nat.le_refl _) hN2 (fun q hq => (hf2 q (by omega)).trans (jx_up_n _ _ (by omega))) ((hf2 _ (by omega)).trans (jx_up_s _ _ _)))))
  · try dsimp only [Option.toList, List.cons_append, List.nil_append]
    have hN1 := fun e => hN.to (M' := jx_up M (a + 23) e) (fun q q1 q2 => jx_up_n _ _ (by omega))
    have hB1 := fun e => (jx_up_n M e (show a + 9 ≠ a + 23 by omega)).trans hB
    refine jx_istore d_L_law_842 (Nat.le_of_ble_eq_true rfl) (jx_e8_5 (by trivial)) ?_
    refine jx_aload_n (i := 2) d_L_law_844 rfl rfl ?_
    refine jx_aload_n (i := 0) d_L_law_845 rfl rfl ?_
    refine jx_iload d_L_law_846 rfl ?_
    refine jx_iconst (v := 1) d_L_law_848 (by decide) ?_
    refine jx_iadd d_L_law_849 ?_
    refine jx_sldj d_L_law_850 (es1 _) (by omega) (by assumption) ?_
    refine jx_i2l d_L_law_851 ?_
    refine jx_bipush (v := 32) d_L_law_852 (by decide) ?_
    refine jx_lshl d_L_law_854 ?_
    refine jx_aload_n (i := 0) d_L_law_855 rfl rfl ?_
    refine jx_iload d_L_law_856 rfl ?_
    refine jx_iconst (v := 2) d_L_law_858 (by decide) ?_
    refine jx_iadd d_L_law_859 ?_
    refine jx_sldj d_L_law_860 (es2 _) (by omega) (by assumption) ?_
    refine jx_i2l d_L_law_861 ?_
    refine jx_ldc2 d_L_law_862 rfl nv_L_82 ?_
    refine jx_land d_L_law_865 ?_
    refine jx_lor d_L_law_866 ?_
    refine jx_aload_n (i := 0) d_L_law_867 rfl rfl ?_
    refine jx_iload d_L_law_868 rfl ?_
    refine jx_iconst (v := 3) d_L_law_870 (by decide) ?_
    refine jx_iadd d_L_law_871 ?_
    refine jx_sldj d_L_law_872 (es3 _) (by omega) (by assumption) ?_
    refine jx_callV2 d_L_law_873 mv_L_114 (hB1 _) rfl (jx_okl hRm (by omega) (Nat.le_of_ble_eq_true rfl)) (Nat.le_of_ble_eq_true rfl) (by omega) (by omega) (c_M_key (d := 10) (by omega) (hN1 _) (fun h => absurd h e2) (fun _ _ h3 => by rw [e3] at h3; cases h3) (fun j2 _ _ h3 M2 hN2 hf2 => ?_) (fun h => absurd e1 h))
    try dsimp only [Option.toList, List.cons_append, List.nil_append]
    · try dsimp only [Option.toList, List.cons_append, List.nil_append]
      obtain rfl : j2 = j := Option.some.inj (h3.symm.trans e3)
      refine jx_istore d_L_law_876 (Nat.le_of_ble_eq_true rfl) (jx_e8_6 (by trivial)) ?_
      exact t0_key (jx_okl hRm (by omega) (by omega)) (by omega) (by omega) hN2 ((hf2 _ (by omega)).trans (jx_up_s _ _ _)) (jx_wi (by omega) (by omega) (k M2 _ (fin M2 _ _ _ (Nat.le_refl _) hN2 (fun q hq => (hf2 q (by omega)).trans (jx_up_n _ _ (by omega))) ((hf2 _ (by omega)).trans (jx_up_s _ _ _)))))
  · try dsimp only [Option.toList, List.cons_append, List.nil_append]
    have hN1 := hN
    have hB1 := hB
    refine jx_istore d_L_law_842 (Nat.le_of_ble_eq_true rfl) (jx_e8_5 (by trivial)) ?_
    refine jx_aload_n (i := 2) d_L_law_844 rfl rfl ?_
    refine jx_aload_n (i := 0) d_L_law_845 rfl rfl ?_
    refine jx_iload d_L_law_846 rfl ?_
    refine jx_iconst (v := 1) d_L_law_848 (by decide) ?_
    refine jx_iadd d_L_law_849 ?_
    refine jx_sldj d_L_law_850 (es1 _) (by omega) (by assumption) ?_
    refine jx_i2l d_L_law_851 ?_
    refine jx_bipush (v := 32) d_L_law_852 (by decide) ?_
    refine jx_lshl d_L_law_854 ?_
    refine jx_aload_n (i := 0) d_L_law_855 rfl rfl ?_
    refine jx_iload d_L_law_856 rfl ?_
    refine jx_iconst (v := 2) d_L_law_858 (by decide) ?_
    refine jx_iadd d_L_law_859 ?_
    refine jx_sldj d_L_law_860 (es2 _) (by omega) (by assumption) ?_
    refine jx_i2l d_L_law_861 ?_
    refine jx_ldc2 d_L_law_862 rfl nv_L_82 ?_
    refine jx_land d_L_law_865 ?_
    refine jx_lor d_L_law_866 ?_
    refine jx_aload_n (i := 0) d_L_law_867 rfl rfl ?_
    refine jx_iload d_L_law_868 rfl ?_
    refine jx_iconst (v := 3) d_L_law_870 (by decide) ?_
    refine jx_iadd d_L_law_871 ?_
    refine jx_sldj d_L_law_872 (es3 _) (by omega) (by assumption) ?_
    refine jx_callV2 d_L_law_873 mv_L_114 hB1 rfl (jx_okl hRm (by omega) (Nat.le_of_ble_eq_true rfl)) (Nat.le_of_ble_eq_true rfl) (by omega) (by omega) (c_M_key (d := 10) (by omega) hN1 (fun h => absurd (by rw [h]; decide) e1) (fun h => absurd h e1) (fun j h => absurd h e1) (fun _ M2 hN2 hf2 => ?_))
    try dsimp only [Option.toList, List.cons_append, List.nil_append]
    · try dsimp only [Option.toList, List.cons_append, List.nil_append]
      refine jx_istore d_L_law_876 (Nat.le_of_ble_eq_true rfl) (jx_e8_6 (by trivial)) ?_
      exact tx_key (jx_okl hRm (by omega) (by omega)) (by omega) (by omega) (by decide) hN2 (jx_wi (by omega) (by omega) (k M2 _ (fin M2 _ _ _ hsz hN2 (fun q hq => hf2 q (by omega)) ((hf2 _ (by omega)).trans hout))))
theorem o_state (hRm : 12 ≤ R.frames ∧ 482 ≤ R.locals) (hc : kc + 5 ≤ R.cells) (hs : ks + 178 ≤ R.slots) (hl : jx_sl G ≤ 3588) (hi : 4 + 7 * c + 7 ≤ jx_sl G) (hset : sp_set la wi en pe A Wd P) (hJ : JI G a c la wi en pe A P M sz) (k : ∀ M' sz', JI G a (c + 1) la wi en pe A P M' sz' → jx_V md_L_law [] G R Q 1411 [some (.ref (jx_sa G)), some (.ref a), some (.ref (a + 9)), some (.ref (a + 23)), some (.int (nI (4 + 7 * c))), none, none, none] [] M' sz' (kc + 5) (ks + 178)) : jx_V md_L_law [] G R Q 710 [some (.ref (jx_sa G)), some (.ref a), some (.ref (a + 9)), some (.ref (a + 23)), some (.int (nI (4 + 7 * c))), none, none, none] [] M sz kc ks := by
  obtain ⟨lo, far, kar, lr, fr, gt, lt, tk, lc, db, fc, le, nF, fo, fd, fw, nK, ko, nm, kd, nS, sn, nA, ac, nO, oc, cd, ou, g, T, q, hW, hN, hout, hlo, hP⟩ := hJ
  obtain ⟨w1, w2, w3, w4, w5, w6, w7, w8, w9⟩ := id hW
  obtain ⟨hP1, hP2, hq, hP4, hP5, hP6, hP7, hP8⟩ := id hP
  have hnF := w8.1.2.1
  have hnK := w9.2.1
  obtain ⟨mk, ki, st, nu, fa, fl, nn, si, wo, ti, va, so, hmk, hB, -⟩ := id hN
  have fin : ∀ M2 sz2 cd2 ou2, sz ≤ sz2 → mW M2 (a + 9) la wi en pe cd2 lr fr gt lt tk lc db fc le nF fd fw nK nm kd nS sn nA ac nO oc → (∀ q, (a ≤ q ∧ q ≤ a + 8) ∨ a + 24 ≤ q → M2 q = M q) → M2 (a + 23) = some (kf_la 1 ou2) → JI G a (c + 1) la wi en pe A P M2 sz2 := fun M2 sz2 cd2 ou2 s1 s2 s3 s4 => ⟨lo, far, kar, lr, fr, gt, lt, tk, lc, db, fc, le, nF, fo, fd, fw, nK, ko, nm, kd, nS, sn, nA, ac, nO, oc, cd2, ou2, g, T, q, hW.to s3, s2, s4, by omega, hP.step⟩
  refine jx_aload_n (i := 1) d_L_law_710 rfl rfl ?_
  refine jx_aload_n (i := 0) d_L_law_711 rfl rfl ?_
  refine jx_iload d_L_law_712 rfl ?_
  refine jx_iconst (v := 1) d_L_law_714 (by decide) ?_
  refine jx_iadd d_L_law_715 ?_
  refine jx_sldj d_L_law_716 (es1 _) (by omega) (by assumption) ?_
  refine jx_i2l d_L_law_717 ?_
  refine jx_bipush (v := 32) d_L_law_718 (by decide) ?_
  refine jx_lshl d_L_law_720 ?_
  refine jx_aload_n (i := 0) d_L_law_721 rfl rfl ?_
  refine jx_iload d_L_law_722 rfl ?_
  refine jx_iconst (v := 2) d_L_law_724 (by decide) ?_
  refine jx_iadd d_L_law_725 ?_
  refine jx_sldj d_L_law_726 (es2 _) (by omega) (by assumption) ?_
  refine jx_i2l d_L_law_727 ?_
  refine jx_ldc2 d_L_law_728 rfl nv_L_82 ?_
  refine jx_land d_L_law_731 ?_
  refine jx_lor d_L_law_732 ?_
  refine jx_aload_n (i := 0) d_L_law_733 rfl rfl ?_
  refine jx_iload d_L_law_734 rfl ?_
  refine jx_iconst (v := 3) d_L_law_736 (by decide) ?_
  refine jx_iadd d_L_law_737 ?_
  refine jx_sldj d_L_law_738 (es3 _) (by omega) (by assumption) ?_
  refine jx_aload_n (i := 3) d_L_law_739 rfl rfl ?_
  refine jx_callH (hh2 := mh_L_state) (As := [.ref a, .long _, .int _, .ref (a + 23)]) d_L_law_740 mk_L_108 pn_state (jx_okl hRm (show 10 ≤ 10 by omega) (Nat.le_of_ble_eq_true rfl)) rfl rfl (Nat.le_of_ble_eq_true rfl) (by omega) (by omega) (c_L_state (d := 10) (by omega) w1 (fun Z2 ZX2 h0 h1 => c_K_state (d := 9) (by omega) w1 w8 w9 (fun f j e1 e2 e3 => h0 _ ou _ _ hout ?_) (fun e1 sz' hsz => h1 _ _ ?_)))
  · try dsimp only [Option.toList, List.cons_append, List.nil_append]
    have hN1 := fun e => hN.to (M' := jx_up M (a + 23) e) (fun q q1 q2 => jx_up_n _ _ (by omega))
    have hB1 := fun e => (jx_up_n M e (show a + 9 ≠ a + 23 by omega)).trans hB
    refine jx_istore d_L_law_743 (Nat.le_of_ble_eq_true rfl) (jx_e8_5 (by trivial)) ?_
    refine jx_aload_n (i := 2) d_L_law_745 rfl rfl ?_
    refine jx_aload_n (i := 0) d_L_law_746 rfl rfl ?_
    refine jx_iload d_L_law_747 rfl ?_
    refine jx_iconst (v := 1) d_L_law_749 (by decide) ?_
    refine jx_iadd d_L_law_750 ?_
    refine jx_sldj d_L_law_751 (es1 _) (by omega) (by assumption) ?_
    refine jx_i2l d_L_law_752 ?_
    refine jx_bipush (v := 32) d_L_law_753 (by decide) ?_
    refine jx_lshl d_L_law_755 ?_
    refine jx_aload_n (i := 0) d_L_law_756 rfl rfl ?_
    refine jx_iload d_L_law_757 rfl ?_
    refine jx_iconst (v := 2) d_L_law_759 (by decide) ?_
    refine jx_iadd d_L_law_760 ?_
    refine jx_sldj d_L_law_761 (es2 _) (by omega) (by assumption) ?_
    refine jx_i2l d_L_law_762 ?_
    refine jx_ldc2 d_L_law_763 rfl nv_L_82 ?_
    refine jx_land d_L_law_766 ?_
    refine jx_lor d_L_law_767 ?_
    refine jx_aload_n (i := 0) d_L_law_768 rfl rfl ?_
    refine jx_iload d_L_law_769 rfl ?_
    refine jx_iconst (v := 3) d_L_law_771 (by decide) ?_
    refine jx_iadd d_L_law_772 ?_
    refine jx_sldj d_L_law_773 (es3 _) (by omega) (by assumption) ?_
    refine jx_callV2 d_L_law_774 mv_L_111 (hB1 _) rfl (jx_okl hRm (by omega) (Nat.le_of_ble_eq_true rfl)) (Nat.le_of_ble_eq_true rfl) (by omega) (by omega) (c_M_state (d := 10) (by omega) (hN1 _) (fun f2 j2 g1 g2 g3 M2 hN2 hf2 => ?_) (fun h => absurd ⟨by rw [e2, nI_toInt (by omega)]; omega, by rw [e3]; rfl⟩ h))
    try dsimp only [Option.toList, List.cons_append, List.nil_append]
    · try dsimp only [Option.toList, List.cons_append, List.nil_append]
      obtain rfl : f2 = f := (nI_eq (by omega) (by omega)).mp (g2.symm.trans e2)
      obtain rfl : j2 = j := Option.some.inj (g3.symm.trans e3)
      have hjK := (sp_ix_lt e3).1
      rw [sp_fb_all (hq _ hjK).2.1, ← (hq _ hjK).2.2 f2 e1]
      refine jx_lstore d_L_law_777 (Nat.le_of_ble_eq_true rfl) (jx_f8_6 (by trivial)) ?_
      exact t0_state (jx_okl hRm (by omega) (by omega)) (by omega) (by omega) hN2 ((hf2 _ (by omega)).trans (jx_up_s _ _ _)) (jx_wi (by omega) (by omega) (k M2 _ (fin M2 _ _ _ (Nat.le_refl _) hN2 (fun q hq => (hf2 q (by omega)).trans (jx_up_n _ _ (by omega))) ((hf2 _ (by omega)).trans (jx_up_s _ _ _)))))
  · try dsimp only [Option.toList, List.cons_append, List.nil_append]
    have hN1 := hN
    have hB1 := hB
    refine jx_istore d_L_law_743 (Nat.le_of_ble_eq_true rfl) (jx_e8_5 (by trivial)) ?_
    refine jx_aload_n (i := 2) d_L_law_745 rfl rfl ?_
    refine jx_aload_n (i := 0) d_L_law_746 rfl rfl ?_
    refine jx_iload d_L_law_747 rfl ?_
    refine jx_iconst (v := 1) d_L_law_749 (by decide) ?_
    refine jx_iadd d_L_law_750 ?_
    refine jx_sldj d_L_law_751 (es1 _) (by omega) (by assumption) ?_
    refine jx_i2l d_L_law_752 ?_
    refine jx_bipush (v := 32) d_L_law_753 (by decide) ?_
    refine jx_lshl d_L_law_755 ?_
    refine jx_aload_n (i := 0) d_L_law_756 rfl rfl ?_
    refine jx_iload d_L_law_757 rfl ?_
    refine jx_iconst (v := 2) d_L_law_759 (by decide) ?_
    refine jx_iadd d_L_law_760 ?_
    refine jx_sldj d_L_law_761 (es2 _) (by omega) (by assumption) ?_
    refine jx_i2l d_L_law_762 ?_
    refine jx_ldc2 d_L_law_763 rfl nv_L_82 ?_
    refine jx_land d_L_law_766 ?_
    refine jx_lor d_L_law_767 ?_
    refine jx_aload_n (i := 0) d_L_law_768 rfl rfl ?_
    refine jx_iload d_L_law_769 rfl ?_
    refine jx_iconst (v := 3) d_L_law_771 (by decide) ?_
    refine jx_iadd d_L_law_772 ?_
    refine jx_sldj d_L_law_773 (es3 _) (by omega) (by assumption) ?_
    refine jx_callV2 d_L_law_774 mv_L_111 hB1 rfl (jx_okl hRm (by omega) (Nat.le_of_ble_eq_true rfl)) (Nat.le_of_ble_eq_true rfl) (by omega) (by omega) (c_M_state (d := 10) (by omega) hN1 (fun f2 j2 g1 g2 g3 => absurd ⟨by rw [g2, nI_toInt (by omega)]; omega, by rw [g3]; rfl⟩ e1) (fun _ M2 hN2 hf2 => ?_))
    try dsimp only [Option.toList, List.cons_append, List.nil_append]
    · try dsimp only [Option.toList, List.cons_append, List.nil_append]
      refine jx_lstore d_L_law_777 (Nat.le_of_ble_eq_true rfl) (jx_f8_6 (by trivial)) ?_
      exact tx_state (jx_okl hRm (by omega) (by omega)) (by omega) (by omega) (by decide) hN2 (jx_wi (by omega) (by omega) (k M2 _ (fin M2 _ _ _ hsz hN2 (fun q hq => hf2 q (by omega)) ((hf2 _ (by omega)).trans hout))))
theorem o_rowOf (hRm : 12 ≤ R.frames ∧ 482 ≤ R.locals) (hc : kc + 5 ≤ R.cells) (hs : ks + 178 ≤ R.slots) (hl : jx_sl G ≤ 3588) (hi : 4 + 7 * c + 7 ≤ jx_sl G) (hset : sp_set la wi en pe A Wd P) (hJ : JI G a c la wi en pe A P M sz) (k : ∀ M' sz', JI G a (c + 1) la wi en pe A P M' sz' → jx_V md_L_law [] G R Q 1411 [some (.ref (jx_sa G)), some (.ref a), some (.ref (a + 9)), some (.ref (a + 23)), some (.int (nI (4 + 7 * c))), none, none, none] [] M' sz' (kc + 5) (ks + 178)) : jx_V md_L_law [] G R Q 909 [some (.ref (jx_sa G)), some (.ref a), some (.ref (a + 9)), some (.ref (a + 23)), some (.int (nI (4 + 7 * c))), none, none, none] [] M sz kc ks := by
  obtain ⟨lo, far, kar, lr, fr, gt, lt, tk, lc, db, fc, le, nF, fo, fd, fw, nK, ko, nm, kd, nS, sn, nA, ac, nO, oc, cd, ou, g, T, q, hW, hN, hout, hlo, hP⟩ := hJ
  obtain ⟨w1, w2, w3, w4, w5, w6, w7, w8, w9⟩ := id hW
  obtain ⟨hP1, hP2, hq, hP4, hP5, hP6, hP7, hP8⟩ := id hP
  have hnF := w8.1.2.1
  have hnK := w9.2.1
  obtain ⟨mk, ki, st, nu, fa, fl, nn, si, wo, ti, va, so, hmk, hB, -⟩ := id hN
  have fin : ∀ M2 sz2 cd2 ou2, sz ≤ sz2 → mW M2 (a + 9) la wi en pe cd2 lr fr gt lt tk lc db fc le nF fd fw nK nm kd nS sn nA ac nO oc → (∀ q, (a ≤ q ∧ q ≤ a + 8) ∨ a + 24 ≤ q → M2 q = M q) → M2 (a + 23) = some (kf_la 1 ou2) → JI G a (c + 1) la wi en pe A P M2 sz2 := fun M2 sz2 cd2 ou2 s1 s2 s3 s4 => ⟨lo, far, kar, lr, fr, gt, lt, tk, lc, db, fc, le, nF, fo, fd, fw, nK, ko, nm, kd, nS, sn, nA, ac, nO, oc, cd2, ou2, g, T, q, hW.to s3, s2, s4, by omega, hP.step⟩
  refine jx_aload_n (i := 1) d_L_law_909 rfl rfl ?_
  refine jx_aload_n (i := 0) d_L_law_910 rfl rfl ?_
  refine jx_iload d_L_law_911 rfl ?_
  refine jx_iconst (v := 1) d_L_law_913 (by decide) ?_
  refine jx_iadd d_L_law_914 ?_
  refine jx_sldj d_L_law_915 (es1 _) (by omega) (by assumption) ?_
  refine jx_i2l d_L_law_916 ?_
  refine jx_bipush (v := 32) d_L_law_917 (by decide) ?_
  refine jx_lshl d_L_law_919 ?_
  refine jx_aload_n (i := 0) d_L_law_920 rfl rfl ?_
  refine jx_iload d_L_law_921 rfl ?_
  refine jx_iconst (v := 2) d_L_law_923 (by decide) ?_
  refine jx_iadd d_L_law_924 ?_
  refine jx_sldj d_L_law_925 (es2 _) (by omega) (by assumption) ?_
  refine jx_i2l d_L_law_926 ?_
  refine jx_ldc2 d_L_law_927 rfl nv_L_82 ?_
  refine jx_land d_L_law_930 ?_
  refine jx_lor d_L_law_931 ?_
  refine jx_aload_n (i := 0) d_L_law_932 rfl rfl ?_
  refine jx_iload d_L_law_933 rfl ?_
  refine jx_iconst (v := 3) d_L_law_935 (by decide) ?_
  refine jx_iadd d_L_law_936 ?_
  refine jx_sldj d_L_law_937 (es3 _) (by omega) (by assumption) ?_
  refine jx_aload_n (i := 0) d_L_law_938 rfl rfl ?_
  refine jx_iload d_L_law_939 rfl ?_
  refine jx_iconst (v := 4) d_L_law_941 (by decide) ?_
  refine jx_iadd d_L_law_942 ?_
  refine jx_sldj d_L_law_943 (es4 _) (by omega) (by assumption) ?_
  refine jx_aload_n (i := 3) d_L_law_944 rfl rfl ?_
  refine jx_callH (hh2 := mh_L_rowOf) (As := [.ref a, .long _, .int _, .int _, .ref (a + 23)]) d_L_law_945 mk_L_115 pn_rowOf (jx_okl hRm (show 10 ≤ 10 by omega) (Nat.le_of_ble_eq_true rfl)) rfl rfl (Nat.le_of_ble_eq_true rfl) (by omega) (by omega) (c_L_rowOf (d := 10) (by omega) w1 (fun Z2 ZX2 h0 h1 => c_K_rowOf (d := 9) (x3 := 0) (by omega) w1 w9 (fun j i e1 e2 e3 e4 => h0 _ ou _ _ hout ?_) (fun e1 sz' hsz => h1 _ _ ?_)))
  · try dsimp only [Option.toList, List.cons_append, List.nil_append]
    have hN1 := fun e => hN.to (M' := jx_up M (a + 23) e) (fun q q1 q2 => jx_up_n _ _ (by omega))
    have hB1 := fun e => (jx_up_n M e (show a + 9 ≠ a + 23 by omega)).trans hB
    refine jx_istore d_L_law_948 (Nat.le_of_ble_eq_true rfl) (jx_e8_5 (by trivial)) ?_
    refine jx_aload_n (i := 2) d_L_law_950 rfl rfl ?_
    refine jx_aload_n (i := 0) d_L_law_951 rfl rfl ?_
    refine jx_iload d_L_law_952 rfl ?_
    refine jx_iconst (v := 1) d_L_law_954 (by decide) ?_
    refine jx_iadd d_L_law_955 ?_
    refine jx_sldj d_L_law_956 (es1 _) (by omega) (by assumption) ?_
    refine jx_i2l d_L_law_957 ?_
    refine jx_bipush (v := 32) d_L_law_958 (by decide) ?_
    refine jx_lshl d_L_law_960 ?_
    refine jx_aload_n (i := 0) d_L_law_961 rfl rfl ?_
    refine jx_iload d_L_law_962 rfl ?_
    refine jx_iconst (v := 2) d_L_law_964 (by decide) ?_
    refine jx_iadd d_L_law_965 ?_
    refine jx_sldj d_L_law_966 (es2 _) (by omega) (by assumption) ?_
    refine jx_i2l d_L_law_967 ?_
    refine jx_ldc2 d_L_law_968 rfl nv_L_82 ?_
    refine jx_land d_L_law_971 ?_
    refine jx_lor d_L_law_972 ?_
    refine jx_aload_n (i := 0) d_L_law_973 rfl rfl ?_
    refine jx_iload d_L_law_974 rfl ?_
    refine jx_iconst (v := 3) d_L_law_976 (by decide) ?_
    refine jx_iadd d_L_law_977 ?_
    refine jx_sldj d_L_law_978 (es3 _) (by omega) (by assumption) ?_
    refine jx_aload_n (i := 0) d_L_law_979 rfl rfl ?_
    refine jx_iload d_L_law_980 rfl ?_
    refine jx_iconst (v := 4) d_L_law_982 (by decide) ?_
    refine jx_iadd d_L_law_983 ?_
    refine jx_sldj d_L_law_984 (es4 _) (by omega) (by assumption) ?_
    refine jx_callV3 d_L_law_985 mv_L_118 (hB1 _) rfl (jx_okl hRm (by omega) (Nat.le_of_ble_eq_true rfl)) (Nat.le_of_ble_eq_true rfl) (by omega) (by omega) (c_M_rowOf (d := 10) (by omega) (hN1 _) (fun j2 i2 g1 g2 g3 g4 M2 hN2 hf2 => ?_) (fun h => absurd ⟨j, i, e1, e2, e3, e4⟩ h))
    try dsimp only [Option.toList, List.cons_append, List.nil_append]
    · try dsimp only [Option.toList, List.cons_append, List.nil_append]
      obtain rfl : j2 = j := Option.some.inj (g1.symm.trans e1)
      have hjK := (sp_ix_lt e1).1
      have h60 := (w9.2.2.2.1 _ hjK).1
      obtain rfl : i2 = i := (nI_eq (by omega) (by omega)).mp (g3.symm.trans e3)
      refine jx_lstore d_L_law_988 (Nat.le_of_ble_eq_true rfl) (jx_f8_6 (by trivial)) ?_
      exact t0_rowOf (jx_okl hRm (by omega) (by omega)) (by omega) (by omega) hN2 ((hf2 _ (by omega)).trans (jx_up_s _ _ _)) (jx_wi (by omega) (by omega) (k M2 _ (fin M2 _ _ _ (Nat.le_refl _) hN2 (fun q hq => (hf2 q (by omega)).trans (jx_up_n _ _ (by omega))) ((hf2 _ (by omega)).trans (jx_up_s _ _ _)))))
  · try dsimp only [Option.toList, List.cons_append, List.nil_append]
    have hN1 := hN
    have hB1 := hB
    refine jx_istore d_L_law_948 (Nat.le_of_ble_eq_true rfl) (jx_e8_5 (by trivial)) ?_
    refine jx_aload_n (i := 2) d_L_law_950 rfl rfl ?_
    refine jx_aload_n (i := 0) d_L_law_951 rfl rfl ?_
    refine jx_iload d_L_law_952 rfl ?_
    refine jx_iconst (v := 1) d_L_law_954 (by decide) ?_
    refine jx_iadd d_L_law_955 ?_
    refine jx_sldj d_L_law_956 (es1 _) (by omega) (by assumption) ?_
    refine jx_i2l d_L_law_957 ?_
    refine jx_bipush (v := 32) d_L_law_958 (by decide) ?_
    refine jx_lshl d_L_law_960 ?_
    refine jx_aload_n (i := 0) d_L_law_961 rfl rfl ?_
    refine jx_iload d_L_law_962 rfl ?_
    refine jx_iconst (v := 2) d_L_law_964 (by decide) ?_
    refine jx_iadd d_L_law_965 ?_
    refine jx_sldj d_L_law_966 (es2 _) (by omega) (by assumption) ?_
    refine jx_i2l d_L_law_967 ?_
    refine jx_ldc2 d_L_law_968 rfl nv_L_82 ?_
    refine jx_land d_L_law_971 ?_
    refine jx_lor d_L_law_972 ?_
    refine jx_aload_n (i := 0) d_L_law_973 rfl rfl ?_
    refine jx_iload d_L_law_974 rfl ?_
    refine jx_iconst (v := 3) d_L_law_976 (by decide) ?_
    refine jx_iadd d_L_law_977 ?_
    refine jx_sldj d_L_law_978 (es3 _) (by omega) (by assumption) ?_
    refine jx_aload_n (i := 0) d_L_law_979 rfl rfl ?_
    refine jx_iload d_L_law_980 rfl ?_
    refine jx_iconst (v := 4) d_L_law_982 (by decide) ?_
    refine jx_iadd d_L_law_983 ?_
    refine jx_sldj d_L_law_984 (es4 _) (by omega) (by assumption) ?_
    refine jx_callV3 d_L_law_985 mv_L_118 hB1 rfl (jx_okl hRm (by omega) (Nat.le_of_ble_eq_true rfl)) (Nat.le_of_ble_eq_true rfl) (by omega) (by omega) (c_M_rowOf (d := 10) (by omega) hN1 (fun j2 i2 g1 g2 g3 g4 => absurd ⟨j2, i2, g1, g2, g3, g4⟩ e1) (fun _ M2 hN2 hf2 => ?_))
    try dsimp only [Option.toList, List.cons_append, List.nil_append]
    · try dsimp only [Option.toList, List.cons_append, List.nil_append]
      refine jx_lstore d_L_law_988 (Nat.le_of_ble_eq_true rfl) (jx_f8_6 (by trivial)) ?_
      exact tx_rowOf (jx_okl hRm (by omega) (by omega)) (by omega) (by omega) (by decide) hN2 (jx_wi (by omega) (by omega) (k M2 _ (fin M2 _ _ _ hsz hN2 (fun q hq => hf2 q (by omega)) ((hf2 _ (by omega)).trans hout))))
theorem o_aside (hRm : 12 ≤ R.frames ∧ 482 ≤ R.locals) (hc : kc + 5 ≤ R.cells) (hs : ks + 178 ≤ R.slots) (hl : jx_sl G ≤ 3588) (hi : 4 + 7 * c + 7 ≤ jx_sl G) (hset : sp_set la wi en pe A Wd P) (hJ : JI G a c la wi en pe A P M sz) (k : ∀ M' sz', JI G a (c + 1) la wi en pe A P M' sz' → jx_V md_L_law [] G R Q 1411 [some (.ref (jx_sa G)), some (.ref a), some (.ref (a + 9)), some (.ref (a + 23)), some (.int (nI (4 + 7 * c))), none, none, none] [] M' sz' (kc + 5) (ks + 178)) : jx_V md_L_law [] G R Q 1020 [some (.ref (jx_sa G)), some (.ref a), some (.ref (a + 9)), some (.ref (a + 23)), some (.int (nI (4 + 7 * c))), none, none, none] [] M sz kc ks := by
  obtain ⟨lo, far, kar, lr, fr, gt, lt, tk, lc, db, fc, le, nF, fo, fd, fw, nK, ko, nm, kd, nS, sn, nA, ac, nO, oc, cd, ou, g, T, q, hW, hN, hout, hlo, hP⟩ := hJ
  obtain ⟨w1, w2, w3, w4, w5, w6, w7, w8, w9⟩ := id hW
  obtain ⟨hP1, hP2, hq, hP4, hP5, hP6, hP7, hP8⟩ := id hP
  have hnF := w8.1.2.1
  have hnK := w9.2.1
  obtain ⟨mk, ki, st, nu, fa, fl, nn, si, wo, ti, va, so, hmk, hB, -⟩ := id hN
  have fin : ∀ M2 sz2 cd2 ou2, sz ≤ sz2 → mW M2 (a + 9) la wi en pe cd2 lr fr gt lt tk lc db fc le nF fd fw nK nm kd nS sn nA ac nO oc → (∀ q, (a ≤ q ∧ q ≤ a + 8) ∨ a + 24 ≤ q → M2 q = M q) → M2 (a + 23) = some (kf_la 1 ou2) → JI G a (c + 1) la wi en pe A P M2 sz2 := fun M2 sz2 cd2 ou2 s1 s2 s3 s4 => ⟨lo, far, kar, lr, fr, gt, lt, tk, lc, db, fc, le, nF, fo, fd, fw, nK, ko, nm, kd, nS, sn, nA, ac, nO, oc, cd2, ou2, g, T, q, hW.to s3, s2, s4, by omega, hP.step⟩
  refine jx_aload_n (i := 1) d_L_law_1020 rfl rfl ?_
  refine jx_aload_n (i := 0) d_L_law_1021 rfl rfl ?_
  refine jx_iload d_L_law_1022 rfl ?_
  refine jx_iconst (v := 1) d_L_law_1024 (by decide) ?_
  refine jx_iadd d_L_law_1025 ?_
  refine jx_sldj d_L_law_1026 (es1 _) (by omega) (by assumption) ?_
  refine jx_aload_n (i := 0) d_L_law_1027 rfl rfl ?_
  refine jx_iload d_L_law_1028 rfl ?_
  refine jx_iconst (v := 2) d_L_law_1030 (by decide) ?_
  refine jx_iadd d_L_law_1031 ?_
  refine jx_sldj d_L_law_1032 (es2 _) (by omega) (by assumption) ?_
  refine jx_aload_n (i := 3) d_L_law_1033 rfl rfl ?_
  refine jx_callH (hh2 := mh_L_aside) (As := [.ref a, .int _, .int _, .ref (a + 23)]) d_L_law_1034 mk_L_119 pn_aside (jx_okl hRm (show 10 ≤ 10 by omega) (Nat.le_of_ble_eq_true rfl)) rfl rfl (Nat.le_of_ble_eq_true rfl) (by omega) (by omega) (c_L_aside (d := 10) (by omega) w1 (fun Z2 ZX2 h0 h1 => c_K_aside (d := 9) (by omega) (by omega) w1 w4 w5 (fun i j e1 e2 e3 e4 e5 => h0 _ ou _ _ hout ?_) (fun e1 sz' hsz => h1 _ _ ?_)))
  · try dsimp only [Option.toList, List.cons_append, List.nil_append]
    have hN1 := fun e => hN.to (M' := jx_up M (a + 23) e) (fun q q1 q2 => jx_up_n _ _ (by omega))
    have hB1 := fun e => (jx_up_n M e (show a + 9 ≠ a + 23 by omega)).trans hB
    refine jx_istore d_L_law_1037 (Nat.le_of_ble_eq_true rfl) (jx_e8_5 (by trivial)) ?_
    refine jx_aload_n (i := 2) d_L_law_1039 rfl rfl ?_
    refine jx_aload_n (i := 0) d_L_law_1040 rfl rfl ?_
    refine jx_iload d_L_law_1041 rfl ?_
    refine jx_iconst (v := 1) d_L_law_1043 (by decide) ?_
    refine jx_iadd d_L_law_1044 ?_
    refine jx_sldj d_L_law_1045 (es1 _) (by omega) (by assumption) ?_
    refine jx_aload_n (i := 0) d_L_law_1046 rfl rfl ?_
    refine jx_iload d_L_law_1047 rfl ?_
    refine jx_iconst (v := 2) d_L_law_1049 (by decide) ?_
    refine jx_iadd d_L_law_1050 ?_
    refine jx_sldj d_L_law_1051 (es2 _) (by omega) (by assumption) ?_
    refine jx_callV2 d_L_law_1052 mv_L_121 (hB1 _) rfl (jx_okl hRm (by omega) (Nat.le_of_ble_eq_true rfl)) (Nat.le_of_ble_eq_true rfl) (by omega) (by omega) (c_M_aside (d := 10) (by omega) (hN1 _) (fun i2 j2 g1 g2 g3 g4 g5 M2 hN2 hf2 => ?_) (fun h => absurd ⟨by rw [e4, nI_toInt (by omega)]; omega, by rw [e5, nI_toInt (by omega)]; omega⟩ h))
    try dsimp only [Option.toList, List.cons_append, List.nil_append]
    · try dsimp only [Option.toList, List.cons_append, List.nil_append]
      obtain rfl : i2 = i := (nI_eq (by omega) (by omega)).mp (g4.symm.trans e4)
      obtain rfl : j2 = j := (nI_eq (by omega) (by omega)).mp (g5.symm.trans e5)
      refine jx_lstore d_L_law_1055 (Nat.le_of_ble_eq_true rfl) (jx_f8_6 (by trivial)) ?_
      exact t0_aside (jx_okl hRm (by omega) (by omega)) (by omega) (by omega) hN2 ((hf2 _ (by omega)).trans (jx_up_s _ _ _)) (jx_wi (by omega) (by omega) (k M2 _ (fin M2 _ _ _ (Nat.le_refl _) hN2 (fun q hq => (hf2 q (by omega)).trans (jx_up_n _ _ (by omega))) ((hf2 _ (by omega)).trans (jx_up_s _ _ _)))))
  · try dsimp only [Option.toList, List.cons_append, List.nil_append]
    have hN1 := hN
    have hB1 := hB
    refine jx_istore d_L_law_1037 (Nat.le_of_ble_eq_true rfl) (jx_e8_5 (by trivial)) ?_
    refine jx_aload_n (i := 2) d_L_law_1039 rfl rfl ?_
    refine jx_aload_n (i := 0) d_L_law_1040 rfl rfl ?_
    refine jx_iload d_L_law_1041 rfl ?_
    refine jx_iconst (v := 1) d_L_law_1043 (by decide) ?_
    refine jx_iadd d_L_law_1044 ?_
    refine jx_sldj d_L_law_1045 (es1 _) (by omega) (by assumption) ?_
    refine jx_aload_n (i := 0) d_L_law_1046 rfl rfl ?_
    refine jx_iload d_L_law_1047 rfl ?_
    refine jx_iconst (v := 2) d_L_law_1049 (by decide) ?_
    refine jx_iadd d_L_law_1050 ?_
    refine jx_sldj d_L_law_1051 (es2 _) (by omega) (by assumption) ?_
    refine jx_callV2 d_L_law_1052 mv_L_121 hB1 rfl (jx_okl hRm (by omega) (Nat.le_of_ble_eq_true rfl)) (Nat.le_of_ble_eq_true rfl) (by omega) (by omega) (c_M_aside (d := 10) (by omega) hN1 (fun i2 j2 g1 g2 g3 g4 g5 => absurd ⟨by rw [g4, nI_toInt (by omega)]; omega, by rw [g5, nI_toInt (by omega)]; omega⟩ e1) (fun _ M2 hN2 hf2 => ?_))
    try dsimp only [Option.toList, List.cons_append, List.nil_append]
    · try dsimp only [Option.toList, List.cons_append, List.nil_append]
      refine jx_lstore d_L_law_1055 (Nat.le_of_ble_eq_true rfl) (jx_f8_6 (by trivial)) ?_
      exact tx_aside (jx_okl hRm (by omega) (by omega)) (by omega) (by omega) (by decide) hN2 (jx_wi (by omega) (by omega) (k M2 _ (fin M2 _ _ _ hsz hN2 (fun q hq => hf2 q (by omega)) ((hf2 _ (by omega)).trans hout))))
theorem o_output (hRm : 12 ≤ R.frames ∧ 482 ≤ R.locals) (hc : kc + 5 ≤ R.cells) (hs : ks + 178 ≤ R.slots) (hl : jx_sl G ≤ 3588) (hi : 4 + 7 * c + 7 ≤ jx_sl G) (hset : sp_set la wi en pe A Wd P) (hJ : JI G a c la wi en pe A P M sz) (k : ∀ M' sz', JI G a (c + 1) la wi en pe A P M' sz' → jx_V md_L_law [] G R Q 1411 [some (.ref (jx_sa G)), some (.ref a), some (.ref (a + 9)), some (.ref (a + 23)), some (.int (nI (4 + 7 * c))), none, none, none] [] M' sz' (kc + 5) (ks + 178)) : jx_V md_L_law [] G R Q 1087 [some (.ref (jx_sa G)), some (.ref a), some (.ref (a + 9)), some (.ref (a + 23)), some (.int (nI (4 + 7 * c))), none, none, none] [] M sz kc ks := by
  obtain ⟨lo, far, kar, lr, fr, gt, lt, tk, lc, db, fc, le, nF, fo, fd, fw, nK, ko, nm, kd, nS, sn, nA, ac, nO, oc, cd, ou, g, T, q, hW, hN, hout, hlo, hP⟩ := hJ
  obtain ⟨w1, w2, w3, w4, w5, w6, w7, w8, w9⟩ := id hW
  obtain ⟨hP1, hP2, hq, hP4, hP5, hP6, hP7, hP8⟩ := id hP
  have hnF := w8.1.2.1
  have hnK := w9.2.1
  obtain ⟨mk, ki, st, nu, fa, fl, nn, si, wo, ti, va, so, hmk, hB, -⟩ := id hN
  have fin : ∀ M2 sz2 cd2 ou2, sz ≤ sz2 → mW M2 (a + 9) la wi en pe cd2 lr fr gt lt tk lc db fc le nF fd fw nK nm kd nS sn nA ac nO oc → (∀ q, (a ≤ q ∧ q ≤ a + 8) ∨ a + 24 ≤ q → M2 q = M q) → M2 (a + 23) = some (kf_la 1 ou2) → JI G a (c + 1) la wi en pe A P M2 sz2 := fun M2 sz2 cd2 ou2 s1 s2 s3 s4 => ⟨lo, far, kar, lr, fr, gt, lt, tk, lc, db, fc, le, nF, fo, fd, fw, nK, ko, nm, kd, nS, sn, nA, ac, nO, oc, cd2, ou2, g, T, q, hW.to s3, s2, s4, by omega, hP.step⟩
  refine jx_aload_n (i := 1) d_L_law_1087 rfl rfl ?_
  refine jx_aload_n (i := 0) d_L_law_1088 rfl rfl ?_
  refine jx_iload d_L_law_1089 rfl ?_
  refine jx_iconst (v := 1) d_L_law_1091 (by decide) ?_
  refine jx_iadd d_L_law_1092 ?_
  refine jx_sldj d_L_law_1093 (es1 _) (by omega) (by assumption) ?_
  refine jx_aload_n (i := 0) d_L_law_1094 rfl rfl ?_
  refine jx_iload d_L_law_1095 rfl ?_
  refine jx_iconst (v := 2) d_L_law_1097 (by decide) ?_
  refine jx_iadd d_L_law_1098 ?_
  refine jx_sldj d_L_law_1099 (es2 _) (by omega) (by assumption) ?_
  refine jx_aload_n (i := 3) d_L_law_1100 rfl rfl ?_
  refine jx_callH (hh2 := mh_L_output) (As := [.ref a, .int _, .int _, .ref (a + 23)]) d_L_law_1101 mk_L_122 pn_output (jx_okl hRm (show 10 ≤ 10 by omega) (Nat.le_of_ble_eq_true rfl)) rfl rfl (Nat.le_of_ble_eq_true rfl) (by omega) (by omega) (c_L_output (d := 10) (by omega) w1 (fun Z2 ZX2 h0 h1 => c_K_output (d := 9) (by omega) (by omega) w1 w6 w7 w8 (fun i j e1 e2 e3 e4 e5 => h0 _ ou _ _ hout ?_) (fun e1 sz' hsz => h1 _ _ ?_)))
  · try dsimp only [Option.toList, List.cons_append, List.nil_append]
    have hN1 := fun e => hN.to (M' := jx_up M (a + 23) e) (fun q q1 q2 => jx_up_n _ _ (by omega))
    have hB1 := fun e => (jx_up_n M e (show a + 9 ≠ a + 23 by omega)).trans hB
    refine jx_istore d_L_law_1104 (Nat.le_of_ble_eq_true rfl) (jx_e8_5 (by trivial)) ?_
    refine jx_aload_n (i := 2) d_L_law_1106 rfl rfl ?_
    refine jx_aload_n (i := 0) d_L_law_1107 rfl rfl ?_
    refine jx_iload d_L_law_1108 rfl ?_
    refine jx_iconst (v := 1) d_L_law_1110 (by decide) ?_
    refine jx_iadd d_L_law_1111 ?_
    refine jx_sldj d_L_law_1112 (es1 _) (by omega) (by assumption) ?_
    refine jx_aload_n (i := 0) d_L_law_1113 rfl rfl ?_
    refine jx_iload d_L_law_1114 rfl ?_
    refine jx_iconst (v := 2) d_L_law_1116 (by decide) ?_
    refine jx_iadd d_L_law_1117 ?_
    refine jx_sldj d_L_law_1118 (es2 _) (by omega) (by assumption) ?_
    refine jx_callV2 d_L_law_1119 mv_L_124 (hB1 _) rfl (jx_okl hRm (by omega) (Nat.le_of_ble_eq_true rfl)) (Nat.le_of_ble_eq_true rfl) (by omega) (by omega) (c_M_output (d := 10) (by omega) (hN1 _) (fun i2 j2 g1 g2 g3 g4 g5 M2 hN2 hf2 => ?_) (fun h => absurd ⟨by rw [e4, nI_toInt (by omega)]; omega, by rw [e5, nI_toInt (by omega)]; omega⟩ h))
    try dsimp only [Option.toList, List.cons_append, List.nil_append]
    · try dsimp only [Option.toList, List.cons_append, List.nil_append]
      obtain rfl : i2 = i := (nI_eq (by omega) (by omega)).mp (g4.symm.trans e4)
      obtain rfl : j2 = j := (nI_eq (by omega) (by omega)).mp (g5.symm.trans e5)
      refine jx_lstore d_L_law_1122 (Nat.le_of_ble_eq_true rfl) (jx_f8_6 (by trivial)) ?_
      exact t0_output (jx_okl hRm (by omega) (by omega)) (by omega) (by omega) hN2 ((hf2 _ (by omega)).trans (jx_up_s _ _ _)) (jx_wi (by omega) (by omega) (k M2 _ (fin M2 _ _ _ (Nat.le_refl _) hN2 (fun q hq => (hf2 q (by omega)).trans (jx_up_n _ _ (by omega))) ((hf2 _ (by omega)).trans (jx_up_s _ _ _)))))
  · try dsimp only [Option.toList, List.cons_append, List.nil_append]
    have hN1 := hN
    have hB1 := hB
    refine jx_istore d_L_law_1104 (Nat.le_of_ble_eq_true rfl) (jx_e8_5 (by trivial)) ?_
    refine jx_aload_n (i := 2) d_L_law_1106 rfl rfl ?_
    refine jx_aload_n (i := 0) d_L_law_1107 rfl rfl ?_
    refine jx_iload d_L_law_1108 rfl ?_
    refine jx_iconst (v := 1) d_L_law_1110 (by decide) ?_
    refine jx_iadd d_L_law_1111 ?_
    refine jx_sldj d_L_law_1112 (es1 _) (by omega) (by assumption) ?_
    refine jx_aload_n (i := 0) d_L_law_1113 rfl rfl ?_
    refine jx_iload d_L_law_1114 rfl ?_
    refine jx_iconst (v := 2) d_L_law_1116 (by decide) ?_
    refine jx_iadd d_L_law_1117 ?_
    refine jx_sldj d_L_law_1118 (es2 _) (by omega) (by assumption) ?_
    refine jx_callV2 d_L_law_1119 mv_L_124 hB1 rfl (jx_okl hRm (by omega) (Nat.le_of_ble_eq_true rfl)) (Nat.le_of_ble_eq_true rfl) (by omega) (by omega) (c_M_output (d := 10) (by omega) hN1 (fun i2 j2 g1 g2 g3 g4 g5 => absurd ⟨by rw [g4, nI_toInt (by omega)]; omega, by rw [g5, nI_toInt (by omega)]; omega⟩ e1) (fun _ M2 hN2 hf2 => ?_))
    try dsimp only [Option.toList, List.cons_append, List.nil_append]
    · try dsimp only [Option.toList, List.cons_append, List.nil_append]
      refine jx_lstore d_L_law_1122 (Nat.le_of_ble_eq_true rfl) (jx_f8_6 (by trivial)) ?_
      exact tx_output (jx_okl hRm (by omega) (by omega)) (by omega) (by omega) (by decide) hN2 (jx_wi (by omega) (by omega) (k M2 _ (fin M2 _ _ _ hsz hN2 (fun q hq => hf2 q (by omega)) ((hf2 _ (by omega)).trans hout))))
theorem o_told (hRm : 12 ≤ R.frames ∧ 482 ≤ R.locals) (hc : kc + 5 ≤ R.cells) (hs : ks + 178 ≤ R.slots) (hl : jx_sl G ≤ 3588) (hi : 4 + 7 * c + 7 ≤ jx_sl G) (hset : sp_set la wi en pe A Wd P) (hJ : JI G a c la wi en pe A P M sz) (k : ∀ M' sz', JI G a (c + 1) la wi en pe A P M' sz' → jx_V md_L_law [] G R Q 1411 [some (.ref (jx_sa G)), some (.ref a), some (.ref (a + 9)), some (.ref (a + 23)), some (.int (nI (4 + 7 * c))), none, none, none] [] M' sz' (kc + 5) (ks + 178)) : jx_V md_L_law [] G R Q 1197 [some (.ref (jx_sa G)), some (.ref a), some (.ref (a + 9)), some (.ref (a + 23)), some (.int (nI (4 + 7 * c))), none, none, none] [] M sz kc ks := by
  obtain ⟨lo, far, kar, lr, fr, gt, lt, tk, lc, db, fc, le, nF, fo, fd, fw, nK, ko, nm, kd, nS, sn, nA, ac, nO, oc, cd, ou, g, T, q, hW, hN, hout, hlo, hP⟩ := hJ
  obtain ⟨w1, w2, w3, w4, w5, w6, w7, w8, w9⟩ := id hW
  obtain ⟨hP1, hP2, hq, hP4, hP5, hP6, hP7, hP8⟩ := id hP
  have hnF := w8.1.2.1
  have hnK := w9.2.1
  obtain ⟨mk, ki, st, nu, fa, fl, nn, si, wo, ti, va, so, hmk, hB, -⟩ := id hN
  have fin : ∀ M2 sz2 cd2 ou2, sz ≤ sz2 → mW M2 (a + 9) la wi en pe cd2 lr fr gt lt tk lc db fc le nF fd fw nK nm kd nS sn nA ac nO oc → (∀ q, (a ≤ q ∧ q ≤ a + 8) ∨ a + 24 ≤ q → M2 q = M q) → M2 (a + 23) = some (kf_la 1 ou2) → JI G a (c + 1) la wi en pe A P M2 sz2 := fun M2 sz2 cd2 ou2 s1 s2 s3 s4 => ⟨lo, far, kar, lr, fr, gt, lt, tk, lc, db, fc, le, nF, fo, fd, fw, nK, ko, nm, kd, nS, sn, nA, ac, nO, oc, cd2, ou2, g, T, q, hW.to s3, s2, s4, by omega, hP.step⟩
  refine jx_aload_n (i := 1) d_L_law_1197 rfl rfl ?_
  refine jx_aload_n (i := 0) d_L_law_1198 rfl rfl ?_
  refine jx_iload d_L_law_1199 rfl ?_
  refine jx_iconst (v := 1) d_L_law_1201 (by decide) ?_
  refine jx_iadd d_L_law_1202 ?_
  refine jx_sldj d_L_law_1203 (es1 _) (by omega) (by assumption) ?_
  refine jx_aload_n (i := 3) d_L_law_1204 rfl rfl ?_
  refine jx_callH (hh2 := mh_L_told) (As := [.ref a, .int _, .ref (a + 23)]) d_L_law_1205 mk_L_129 pn_told (jx_okl hRm (show 10 ≤ 10 by omega) (Nat.le_of_ble_eq_true rfl)) rfl rfl (Nat.le_of_ble_eq_true rfl) (by omega) (by omega) (c_L_told (d := 10) (by omega) w1 (fun Z2 ZX2 h0 h1 => c_K_told (d := 9) (by omega) w1 w8 w9 w4 w6 (fun e1 => h0 _ ou _ _ hout ?_) (fun e1 => h0 _ ou _ _ hout ?_) (fun e1 => h0 _ ou _ _ hout ?_) (fun e1 => h0 _ ou _ _ hout ?_) (fun e1 => h0 _ ou _ _ hout ?_) (fun e1 => h0 _ ou _ _ hout ?_) (fun e1 => h0 _ ou _ _ hout ?_) (fun e1 => h0 _ ou _ _ hout ?_) (fun e1 => h0 _ ou _ _ hout ?_) (fun e1 sz' hsz => h1 _ _ ?_)))
  · try dsimp only [Option.toList, List.cons_append, List.nil_append]
    have hN1 := fun e => hN.to (M' := jx_up M (a + 23) e) (fun q q1 q2 => jx_up_n _ _ (by omega))
    have hB1 := fun e => (jx_up_n M e (show a + 9 ≠ a + 23 by omega)).trans hB
    refine jx_istore d_L_law_1208 (Nat.le_of_ble_eq_true rfl) (jx_e8_5 (by trivial)) ?_
    refine jx_aload_n (i := 2) d_L_law_1210 rfl rfl ?_
    refine jx_aload_n (i := 0) d_L_law_1211 rfl rfl ?_
    refine jx_iload d_L_law_1212 rfl ?_
    refine jx_iconst (v := 1) d_L_law_1214 (by decide) ?_
    refine jx_iadd d_L_law_1215 ?_
    refine jx_sldj d_L_law_1216 (es1 _) (by omega) (by assumption) ?_
    refine jx_callV1 d_L_law_1217 mv_L_132 (hB1 _) rfl (jx_okl hRm (by omega) (Nat.le_of_ble_eq_true rfl)) (Nat.le_of_ble_eq_true rfl) (by omega) (by omega) (c_M_told (d := 10) (hN1 _) (fun _ M2 hN2 hf2 => ?_) (fun h => absurd (h.symm.trans e1) (by decide)) (fun h => absurd (h.symm.trans e1) (by decide)) (fun h => absurd (h.symm.trans e1) (by decide)) (fun h => absurd (h.symm.trans e1) (by decide)) (fun h => absurd (h.symm.trans e1) (by decide)) (fun h => absurd (h.symm.trans e1) (by decide)) (fun h => absurd (h.symm.trans e1) (by decide)) (fun h => absurd (h.symm.trans e1) (by decide)) (fun h => absurd (by rw [e1]; decide) h))
    try dsimp only [Option.toList, List.cons_append, List.nil_append]
    · try dsimp only [Option.toList, List.cons_append, List.nil_append]
      refine jx_istore d_L_law_1220 (Nat.le_of_ble_eq_true rfl) (jx_e8_6 (by trivial)) ?_
      exact t0_told (jx_okl hRm (by omega) (by omega)) (by omega) (by omega) hN2 ((hf2 _ (by omega)).trans (jx_up_s _ _ _)) (jx_wi (by omega) (by omega) (k M2 _ (fin M2 _ _ _ (Nat.le_refl _) hN2 (fun q hq => (hf2 q (by omega)).trans (jx_up_n _ _ (by omega))) ((hf2 _ (by omega)).trans (jx_up_s _ _ _)))))
  · try dsimp only [Option.toList, List.cons_append, List.nil_append]
    have hN1 := fun e => hN.to (M' := jx_up M (a + 23) e) (fun q q1 q2 => jx_up_n _ _ (by omega))
    have hB1 := fun e => (jx_up_n M e (show a + 9 ≠ a + 23 by omega)).trans hB
    refine jx_istore d_L_law_1208 (Nat.le_of_ble_eq_true rfl) (jx_e8_5 (by trivial)) ?_
    refine jx_aload_n (i := 2) d_L_law_1210 rfl rfl ?_
    refine jx_aload_n (i := 0) d_L_law_1211 rfl rfl ?_
    refine jx_iload d_L_law_1212 rfl ?_
    refine jx_iconst (v := 1) d_L_law_1214 (by decide) ?_
    refine jx_iadd d_L_law_1215 ?_
    refine jx_sldj d_L_law_1216 (es1 _) (by omega) (by assumption) ?_
    refine jx_callV1 d_L_law_1217 mv_L_132 (hB1 _) rfl (jx_okl hRm (by omega) (Nat.le_of_ble_eq_true rfl)) (Nat.le_of_ble_eq_true rfl) (by omega) (by omega) (c_M_told (d := 10) (hN1 _) (fun h => absurd (h.symm.trans e1) (by decide)) (fun _ M2 hN2 hf2 => ?_) (fun h => absurd (h.symm.trans e1) (by decide)) (fun h => absurd (h.symm.trans e1) (by decide)) (fun h => absurd (h.symm.trans e1) (by decide)) (fun h => absurd (h.symm.trans e1) (by decide)) (fun h => absurd (h.symm.trans e1) (by decide)) (fun h => absurd (h.symm.trans e1) (by decide)) (fun h => absurd (h.symm.trans e1) (by decide)) (fun h => absurd (by rw [e1]; decide) h))
    try dsimp only [Option.toList, List.cons_append, List.nil_append]
    · try dsimp only [Option.toList, List.cons_append, List.nil_append]
      refine jx_istore d_L_law_1220 (Nat.le_of_ble_eq_true rfl) (jx_e8_6 (by trivial)) ?_
      exact t0_told (jx_okl hRm (by omega) (by omega)) (by omega) (by omega) hN2 ((hf2 _ (by omega)).trans (jx_up_s _ _ _)) (jx_wi (by omega) (by omega) (k M2 _ (fin M2 _ _ _ (Nat.le_refl _) hN2 (fun q hq => (hf2 q (by omega)).trans (jx_up_n _ _ (by omega))) ((hf2 _ (by omega)).trans (jx_up_s _ _ _)))))
  · try dsimp only [Option.toList, List.cons_append, List.nil_append]
    have hN1 := fun e => hN.to (M' := jx_up M (a + 23) e) (fun q q1 q2 => jx_up_n _ _ (by omega))
    have hB1 := fun e => (jx_up_n M e (show a + 9 ≠ a + 23 by omega)).trans hB
    refine jx_istore d_L_law_1208 (Nat.le_of_ble_eq_true rfl) (jx_e8_5 (by trivial)) ?_
    refine jx_aload_n (i := 2) d_L_law_1210 rfl rfl ?_
    refine jx_aload_n (i := 0) d_L_law_1211 rfl rfl ?_
    refine jx_iload d_L_law_1212 rfl ?_
    refine jx_iconst (v := 1) d_L_law_1214 (by decide) ?_
    refine jx_iadd d_L_law_1215 ?_
    refine jx_sldj d_L_law_1216 (es1 _) (by omega) (by assumption) ?_
    refine jx_callV1 d_L_law_1217 mv_L_132 (hB1 _) rfl (jx_okl hRm (by omega) (Nat.le_of_ble_eq_true rfl)) (Nat.le_of_ble_eq_true rfl) (by omega) (by omega) (c_M_told (d := 10) (hN1 _) (fun h => absurd (h.symm.trans e1) (by decide)) (fun h => absurd (h.symm.trans e1) (by decide)) (fun _ M2 hN2 hf2 => ?_) (fun h => absurd (h.symm.trans e1) (by decide)) (fun h => absurd (h.symm.trans e1) (by decide)) (fun h => absurd (h.symm.trans e1) (by decide)) (fun h => absurd (h.symm.trans e1) (by decide)) (fun h => absurd (h.symm.trans e1) (by decide)) (fun h => absurd (h.symm.trans e1) (by decide)) (fun h => absurd (by rw [e1]; decide) h))
    try dsimp only [Option.toList, List.cons_append, List.nil_append]
    · try dsimp only [Option.toList, List.cons_append, List.nil_append]
      refine jx_istore d_L_law_1220 (Nat.le_of_ble_eq_true rfl) (jx_e8_6 (by trivial)) ?_
      exact t0_told (jx_okl hRm (by omega) (by omega)) (by omega) (by omega) hN2 ((hf2 _ (by omega)).trans (jx_up_s _ _ _)) (jx_wi (by omega) (by omega) (k M2 _ (fin M2 _ _ _ (Nat.le_refl _) hN2 (fun q hq => (hf2 q (by omega)).trans (jx_up_n _ _ (by omega))) ((hf2 _ (by omega)).trans (jx_up_s _ _ _)))))
  · try dsimp only [Option.toList, List.cons_append, List.nil_append]
    have hN1 := fun e => hN.to (M' := jx_up M (a + 23) e) (fun q q1 q2 => jx_up_n _ _ (by omega))
    have hB1 := fun e => (jx_up_n M e (show a + 9 ≠ a + 23 by omega)).trans hB
    refine jx_istore d_L_law_1208 (Nat.le_of_ble_eq_true rfl) (jx_e8_5 (by trivial)) ?_
    refine jx_aload_n (i := 2) d_L_law_1210 rfl rfl ?_
    refine jx_aload_n (i := 0) d_L_law_1211 rfl rfl ?_
    refine jx_iload d_L_law_1212 rfl ?_
    refine jx_iconst (v := 1) d_L_law_1214 (by decide) ?_
    refine jx_iadd d_L_law_1215 ?_
    refine jx_sldj d_L_law_1216 (es1 _) (by omega) (by assumption) ?_
    refine jx_callV1 d_L_law_1217 mv_L_132 (hB1 _) rfl (jx_okl hRm (by omega) (Nat.le_of_ble_eq_true rfl)) (Nat.le_of_ble_eq_true rfl) (by omega) (by omega) (c_M_told (d := 10) (hN1 _) (fun h => absurd (h.symm.trans e1) (by decide)) (fun h => absurd (h.symm.trans e1) (by decide)) (fun h => absurd (h.symm.trans e1) (by decide)) (fun _ M2 hN2 hf2 => ?_) (fun h => absurd (h.symm.trans e1) (by decide)) (fun h => absurd (h.symm.trans e1) (by decide)) (fun h => absurd (h.symm.trans e1) (by decide)) (fun h => absurd (h.symm.trans e1) (by decide)) (fun h => absurd (h.symm.trans e1) (by decide)) (fun h => absurd (by rw [e1]; decide) h))
    try dsimp only [Option.toList, List.cons_append, List.nil_append]
    · try dsimp only [Option.toList, List.cons_append, List.nil_append]
      refine jx_istore d_L_law_1220 (Nat.le_of_ble_eq_true rfl) (jx_e8_6 (by trivial)) ?_
      exact t0_told (jx_okl hRm (by omega) (by omega)) (by omega) (by omega) hN2 ((hf2 _ (by omega)).trans (jx_up_s _ _ _)) (jx_wi (by omega) (by omega) (k M2 _ (fin M2 _ _ _ (Nat.le_refl _) hN2 (fun q hq => (hf2 q (by omega)).trans (jx_up_n _ _ (by omega))) ((hf2 _ (by omega)).trans (jx_up_s _ _ _)))))
  · try dsimp only [Option.toList, List.cons_append, List.nil_append]
    have hN1 := fun e => hN.to (M' := jx_up M (a + 23) e) (fun q q1 q2 => jx_up_n _ _ (by omega))
    have hB1 := fun e => (jx_up_n M e (show a + 9 ≠ a + 23 by omega)).trans hB
    refine jx_istore d_L_law_1208 (Nat.le_of_ble_eq_true rfl) (jx_e8_5 (by trivial)) ?_
    refine jx_aload_n (i := 2) d_L_law_1210 rfl rfl ?_
    refine jx_aload_n (i := 0) d_L_law_1211 rfl rfl ?_
    refine jx_iload d_L_law_1212 rfl ?_
    refine jx_iconst (v := 1) d_L_law_1214 (by decide) ?_
    refine jx_iadd d_L_law_1215 ?_
    refine jx_sldj d_L_law_1216 (es1 _) (by omega) (by assumption) ?_
    refine jx_callV1 d_L_law_1217 mv_L_132 (hB1 _) rfl (jx_okl hRm (by omega) (Nat.le_of_ble_eq_true rfl)) (Nat.le_of_ble_eq_true rfl) (by omega) (by omega) (c_M_told (d := 10) (hN1 _) (fun h => absurd (h.symm.trans e1) (by decide)) (fun h => absurd (h.symm.trans e1) (by decide)) (fun h => absurd (h.symm.trans e1) (by decide)) (fun h => absurd (h.symm.trans e1) (by decide)) (fun _ M2 hN2 hf2 => ?_) (fun h => absurd (h.symm.trans e1) (by decide)) (fun h => absurd (h.symm.trans e1) (by decide)) (fun h => absurd (h.symm.trans e1) (by decide)) (fun h => absurd (h.symm.trans e1) (by decide)) (fun h => absurd (by rw [e1]; decide) h))
    try dsimp only [Option.toList, List.cons_append, List.nil_append]
    · try dsimp only [Option.toList, List.cons_append, List.nil_append]
      refine jx_istore d_L_law_1220 (Nat.le_of_ble_eq_true rfl) (jx_e8_6 (by trivial)) ?_
      exact t0_told (jx_okl hRm (by omega) (by omega)) (by omega) (by omega) hN2 ((hf2 _ (by omega)).trans (jx_up_s _ _ _)) (jx_wi (by omega) (by omega) (k M2 _ (fin M2 _ _ _ (Nat.le_refl _) hN2 (fun q hq => (hf2 q (by omega)).trans (jx_up_n _ _ (by omega))) ((hf2 _ (by omega)).trans (jx_up_s _ _ _)))))
  · try dsimp only [Option.toList, List.cons_append, List.nil_append]
    have hN1 := fun e => hN.to (M' := jx_up M (a + 23) e) (fun q q1 q2 => jx_up_n _ _ (by omega))
    have hB1 := fun e => (jx_up_n M e (show a + 9 ≠ a + 23 by omega)).trans hB
    refine jx_istore d_L_law_1208 (Nat.le_of_ble_eq_true rfl) (jx_e8_5 (by trivial)) ?_
    refine jx_aload_n (i := 2) d_L_law_1210 rfl rfl ?_
    refine jx_aload_n (i := 0) d_L_law_1211 rfl rfl ?_
    refine jx_iload d_L_law_1212 rfl ?_
    refine jx_iconst (v := 1) d_L_law_1214 (by decide) ?_
    refine jx_iadd d_L_law_1215 ?_
    refine jx_sldj d_L_law_1216 (es1 _) (by omega) (by assumption) ?_
    refine jx_callV1 d_L_law_1217 mv_L_132 (hB1 _) rfl (jx_okl hRm (by omega) (Nat.le_of_ble_eq_true rfl)) (Nat.le_of_ble_eq_true rfl) (by omega) (by omega) (c_M_told (d := 10) (hN1 _) (fun h => absurd (h.symm.trans e1) (by decide)) (fun h => absurd (h.symm.trans e1) (by decide)) (fun h => absurd (h.symm.trans e1) (by decide)) (fun h => absurd (h.symm.trans e1) (by decide)) (fun h => absurd (h.symm.trans e1) (by decide)) (fun _ M2 hN2 hf2 => ?_) (fun h => absurd (h.symm.trans e1) (by decide)) (fun h => absurd (h.symm.trans e1) (by decide)) (fun h => absurd (h.symm.trans e1) (by decide)) (fun h => absurd (by rw [e1]; decide) h))
    try dsimp only [Option.toList, List.cons_append, List.nil_append]
    · try dsimp only [Option.toList, List.cons_append, List.nil_append]
      refine jx_istore d_L_law_1220 (Nat.le_of_ble_eq_true rfl) (jx_e8_6 (by trivial)) ?_
      exact t0_told (jx_okl hRm (by omega) (by omega)) (by omega) (by omega) hN2 ((hf2 _ (by omega)).trans (jx_up_s _ _ _)) (jx_wi (by omega) (by omega) (k M2 _ (fin M2 _ _ _ (Nat.le_refl _) hN2 (fun q hq => (hf2 q (by omega)).trans (jx_up_n _ _ (by omega))) ((hf2 _ (by omega)).trans (jx_up_s _ _ _)))))
  · try dsimp only [Option.toList, List.cons_append, List.nil_append]
    have hN1 := fun e => hN.to (M' := jx_up M (a + 23) e) (fun q q1 q2 => jx_up_n _ _ (by omega))
    have hB1 := fun e => (jx_up_n M e (show a + 9 ≠ a + 23 by omega)).trans hB
    refine jx_istore d_L_law_1208 (Nat.le_of_ble_eq_true rfl) (jx_e8_5 (by trivial)) ?_
    refine jx_aload_n (i := 2) d_L_law_1210 rfl rfl ?_
    refine jx_aload_n (i := 0) d_L_law_1211 rfl rfl ?_
    refine jx_iload d_L_law_1212 rfl ?_
    refine jx_iconst (v := 1) d_L_law_1214 (by decide) ?_
    refine jx_iadd d_L_law_1215 ?_
    refine jx_sldj d_L_law_1216 (es1 _) (by omega) (by assumption) ?_
    refine jx_callV1 d_L_law_1217 mv_L_132 (hB1 _) rfl (jx_okl hRm (by omega) (Nat.le_of_ble_eq_true rfl)) (Nat.le_of_ble_eq_true rfl) (by omega) (by omega) (c_M_told (d := 10) (hN1 _) (fun h => absurd (h.symm.trans e1) (by decide)) (fun h => absurd (h.symm.trans e1) (by decide)) (fun h => absurd (h.symm.trans e1) (by decide)) (fun h => absurd (h.symm.trans e1) (by decide)) (fun h => absurd (h.symm.trans e1) (by decide)) (fun h => absurd (h.symm.trans e1) (by decide)) (fun _ M2 hN2 hf2 => ?_) (fun h => absurd (h.symm.trans e1) (by decide)) (fun h => absurd (h.symm.trans e1) (by decide)) (fun h => absurd (by rw [e1]; decide) h))
    try dsimp only [Option.toList, List.cons_append, List.nil_append]
    · try dsimp only [Option.toList, List.cons_append, List.nil_append]
      refine jx_istore d_L_law_1220 (Nat.le_of_ble_eq_true rfl) (jx_e8_6 (by trivial)) ?_
      exact t0_told (jx_okl hRm (by omega) (by omega)) (by omega) (by omega) hN2 ((hf2 _ (by omega)).trans (jx_up_s _ _ _)) (jx_wi (by omega) (by omega) (k M2 _ (fin M2 _ _ _ (Nat.le_refl _) hN2 (fun q hq => (hf2 q (by omega)).trans (jx_up_n _ _ (by omega))) ((hf2 _ (by omega)).trans (jx_up_s _ _ _)))))
  · try dsimp only [Option.toList, List.cons_append, List.nil_append]
    have hN1 := fun e => hN.to (M' := jx_up M (a + 23) e) (fun q q1 q2 => jx_up_n _ _ (by omega))
    have hB1 := fun e => (jx_up_n M e (show a + 9 ≠ a + 23 by omega)).trans hB
    refine jx_istore d_L_law_1208 (Nat.le_of_ble_eq_true rfl) (jx_e8_5 (by trivial)) ?_
    refine jx_aload_n (i := 2) d_L_law_1210 rfl rfl ?_
    refine jx_aload_n (i := 0) d_L_law_1211 rfl rfl ?_
    refine jx_iload d_L_law_1212 rfl ?_
    refine jx_iconst (v := 1) d_L_law_1214 (by decide) ?_
    refine jx_iadd d_L_law_1215 ?_
    refine jx_sldj d_L_law_1216 (es1 _) (by omega) (by assumption) ?_
    refine jx_callV1 d_L_law_1217 mv_L_132 (hB1 _) rfl (jx_okl hRm (by omega) (Nat.le_of_ble_eq_true rfl)) (Nat.le_of_ble_eq_true rfl) (by omega) (by omega) (c_M_told (d := 10) (hN1 _) (fun h => absurd (h.symm.trans e1) (by decide)) (fun h => absurd (h.symm.trans e1) (by decide)) (fun h => absurd (h.symm.trans e1) (by decide)) (fun h => absurd (h.symm.trans e1) (by decide)) (fun h => absurd (h.symm.trans e1) (by decide)) (fun h => absurd (h.symm.trans e1) (by decide)) (fun h => absurd (h.symm.trans e1) (by decide)) (fun _ M2 hN2 hf2 => ?_) (fun h => absurd (h.symm.trans e1) (by decide)) (fun h => absurd (by rw [e1]; decide) h))
    try dsimp only [Option.toList, List.cons_append, List.nil_append]
    · try dsimp only [Option.toList, List.cons_append, List.nil_append]
      refine jx_istore d_L_law_1220 (Nat.le_of_ble_eq_true rfl) (jx_e8_6 (by trivial)) ?_
      exact t0_told (jx_okl hRm (by omega) (by omega)) (by omega) (by omega) hN2 ((hf2 _ (by omega)).trans (jx_up_s _ _ _)) (jx_wi (by omega) (by omega) (k M2 _ (fin M2 _ _ _ (Nat.le_refl _) hN2 (fun q hq => (hf2 q (by omega)).trans (jx_up_n _ _ (by omega))) ((hf2 _ (by omega)).trans (jx_up_s _ _ _)))))
  · try dsimp only [Option.toList, List.cons_append, List.nil_append]
    have hN1 := fun e => hN.to (M' := jx_up M (a + 23) e) (fun q q1 q2 => jx_up_n _ _ (by omega))
    have hB1 := fun e => (jx_up_n M e (show a + 9 ≠ a + 23 by omega)).trans hB
    refine jx_istore d_L_law_1208 (Nat.le_of_ble_eq_true rfl) (jx_e8_5 (by trivial)) ?_
    refine jx_aload_n (i := 2) d_L_law_1210 rfl rfl ?_
    refine jx_aload_n (i := 0) d_L_law_1211 rfl rfl ?_
    refine jx_iload d_L_law_1212 rfl ?_
    refine jx_iconst (v := 1) d_L_law_1214 (by decide) ?_
    refine jx_iadd d_L_law_1215 ?_
    refine jx_sldj d_L_law_1216 (es1 _) (by omega) (by assumption) ?_
    refine jx_callV1 d_L_law_1217 mv_L_132 (hB1 _) rfl (jx_okl hRm (by omega) (Nat.le_of_ble_eq_true rfl)) (Nat.le_of_ble_eq_true rfl) (by omega) (by omega) (c_M_told (d := 10) (hN1 _) (fun h => absurd (h.symm.trans e1) (by decide)) (fun h => absurd (h.symm.trans e1) (by decide)) (fun h => absurd (h.symm.trans e1) (by decide)) (fun h => absurd (h.symm.trans e1) (by decide)) (fun h => absurd (h.symm.trans e1) (by decide)) (fun h => absurd (h.symm.trans e1) (by decide)) (fun h => absurd (h.symm.trans e1) (by decide)) (fun h => absurd (h.symm.trans e1) (by decide)) (fun _ M2 hN2 hf2 => ?_) (fun h => absurd (by rw [e1]; decide) h))
    try dsimp only [Option.toList, List.cons_append, List.nil_append]
    · try dsimp only [Option.toList, List.cons_append, List.nil_append]
      refine jx_istore d_L_law_1220 (Nat.le_of_ble_eq_true rfl) (jx_e8_6 (by trivial)) ?_
      exact t0_told (jx_okl hRm (by omega) (by omega)) (by omega) (by omega) hN2 ((hf2 _ (by omega)).trans (jx_up_s _ _ _)) (jx_wi (by omega) (by omega) (k M2 _ (fin M2 _ _ _ (Nat.le_refl _) hN2 (fun q hq => (hf2 q (by omega)).trans (jx_up_n _ _ (by omega))) ((hf2 _ (by omega)).trans (jx_up_s _ _ _)))))
  · try dsimp only [Option.toList, List.cons_append, List.nil_append]
    have hN1 := hN
    have hB1 := hB
    refine jx_istore d_L_law_1208 (Nat.le_of_ble_eq_true rfl) (jx_e8_5 (by trivial)) ?_
    refine jx_aload_n (i := 2) d_L_law_1210 rfl rfl ?_
    refine jx_aload_n (i := 0) d_L_law_1211 rfl rfl ?_
    refine jx_iload d_L_law_1212 rfl ?_
    refine jx_iconst (v := 1) d_L_law_1214 (by decide) ?_
    refine jx_iadd d_L_law_1215 ?_
    refine jx_sldj d_L_law_1216 (es1 _) (by omega) (by assumption) ?_
    refine jx_callV1 d_L_law_1217 mv_L_132 hB1 rfl (jx_okl hRm (by omega) (Nat.le_of_ble_eq_true rfl)) (Nat.le_of_ble_eq_true rfl) (by omega) (by omega) (c_M_told (d := 10) hN1 (fun h => absurd (by rw [h]; decide) e1) (fun h => absurd (by rw [h]; decide) e1) (fun h => absurd (by rw [h]; decide) e1) (fun h => absurd (by rw [h]; decide) e1) (fun h => absurd (by rw [h]; decide) e1) (fun h => absurd (by rw [h]; decide) e1) (fun h => absurd (by rw [h]; decide) e1) (fun h => absurd (by rw [h]; decide) e1) (fun h => absurd (by rw [h]; decide) e1) (fun _ M2 hN2 hf2 => ?_))
    try dsimp only [Option.toList, List.cons_append, List.nil_append]
    · try dsimp only [Option.toList, List.cons_append, List.nil_append]
      refine jx_istore d_L_law_1220 (Nat.le_of_ble_eq_true rfl) (jx_e8_6 (by trivial)) ?_
      exact tx_told (jx_okl hRm (by omega) (by omega)) (by omega) (by omega) (by decide) hN2 (jx_wi (by omega) (by omega) (k M2 _ (fin M2 _ _ _ hsz hN2 (fun q hq => hf2 q (by omega)) ((hf2 _ (by omega)).trans hout))))
theorem o_folded (hRm : 12 ≤ R.frames ∧ 482 ≤ R.locals) (hc : kc + 5 ≤ R.cells) (hs : ks + 178 ≤ R.slots) (hl : jx_sl G ≤ 3588) (hi : 4 + 7 * c + 7 ≤ jx_sl G) (hset : sp_set la wi en pe A Wd P) (hJ : JI G a c la wi en pe A P M sz) (k : ∀ M' sz', JI G a (c + 1) la wi en pe A P M' sz' → jx_V md_L_law [] G R Q 1411 [some (.ref (jx_sa G)), some (.ref a), some (.ref (a + 9)), some (.ref (a + 23)), some (.int (nI (4 + 7 * c))), none, none, none] [] M' sz' (kc + 5) (ks + 178)) : jx_V md_L_law [] G R Q 1253 [some (.ref (jx_sa G)), some (.ref a), some (.ref (a + 9)), some (.ref (a + 23)), some (.int (nI (4 + 7 * c))), none, none, none] [] M sz kc ks := by
  obtain ⟨lo, far, kar, lr, fr, gt, lt, tk, lc, db, fc, le, nF, fo, fd, fw, nK, ko, nm, kd, nS, sn, nA, ac, nO, oc, cd, ou, g, T, q, hW, hN, hout, hlo, hP⟩ := hJ
  obtain ⟨w1, w2, w3, w4, w5, w6, w7, w8, w9⟩ := id hW
  obtain ⟨hP1, hP2, hq, hP4, hP5, hP6, hP7, hP8⟩ := id hP
  have hnF := w8.1.2.1
  have hnK := w9.2.1
  obtain ⟨mk, ki, st, nu, fa, fl, nn, si, wo, ti, va, so, hmk, hB, -⟩ := id hN
  have fin : ∀ M2 sz2 cd2 ou2, sz ≤ sz2 → mW M2 (a + 9) la wi en pe cd2 lr fr gt lt tk lc db fc le nF fd fw nK nm kd nS sn nA ac nO oc → (∀ q, (a ≤ q ∧ q ≤ a + 8) ∨ a + 24 ≤ q → M2 q = M q) → M2 (a + 23) = some (kf_la 1 ou2) → JI G a (c + 1) la wi en pe A P M2 sz2 := fun M2 sz2 cd2 ou2 s1 s2 s3 s4 => ⟨lo, far, kar, lr, fr, gt, lt, tk, lc, db, fc, le, nF, fo, fd, fw, nK, ko, nm, kd, nS, sn, nA, ac, nO, oc, cd2, ou2, g, T, q, hW.to s3, s2, s4, by omega, hP.step⟩
  refine jx_aload_n (i := 1) d_L_law_1253 rfl rfl ?_
  refine jx_aload_n (i := 0) d_L_law_1254 rfl rfl ?_
  refine jx_iload d_L_law_1255 rfl ?_
  refine jx_iconst (v := 1) d_L_law_1257 (by decide) ?_
  refine jx_iadd d_L_law_1258 ?_
  refine jx_sldj d_L_law_1259 (es1 _) (by omega) (by assumption) ?_
  refine jx_i2l d_L_law_1260 ?_
  refine jx_bipush (v := 32) d_L_law_1261 (by decide) ?_
  refine jx_lshl d_L_law_1263 ?_
  refine jx_aload_n (i := 0) d_L_law_1264 rfl rfl ?_
  refine jx_iload d_L_law_1265 rfl ?_
  refine jx_iconst (v := 2) d_L_law_1267 (by decide) ?_
  refine jx_iadd d_L_law_1268 ?_
  refine jx_sldj d_L_law_1269 (es2 _) (by omega) (by assumption) ?_
  refine jx_i2l d_L_law_1270 ?_
  refine jx_ldc2 d_L_law_1271 rfl nv_L_82 ?_
  refine jx_land d_L_law_1274 ?_
  refine jx_lor d_L_law_1275 ?_
  refine jx_aload_n (i := 3) d_L_law_1276 rfl rfl ?_
  refine jx_callH (hh2 := mh_L_folded) (As := [.ref a, .long _, .ref (a + 23)]) d_L_law_1277 mk_L_133 pn_folded (jx_okl hRm (show 10 ≤ 10 by omega) (Nat.le_of_ble_eq_true rfl)) rfl rfl (Nat.le_of_ble_eq_true rfl) (by omega) (by omega) (c_L_folded (d := 10) (by omega) w1 (fun Z2 ZX2 h0 h1 => c_K_folded (d := 9) (by omega) w1 w8 w9 (fun j hj f hf => (hq j hj).2.2 f hf) (fun j e1 => h0 _ ou _ _ hout ?_) (fun e1 sz' hsz => h1 _ _ ?_)))
  · try dsimp only [Option.toList, List.cons_append, List.nil_append]
    have hN1 := fun e => hN.to (M' := jx_up M (a + 23) e) (fun q q1 q2 => jx_up_n _ _ (by omega))
    have hB1 := fun e => (jx_up_n M e (show a + 9 ≠ a + 23 by omega)).trans hB
    refine jx_istore d_L_law_1280 (Nat.le_of_ble_eq_true rfl) (jx_e8_5 (by trivial)) ?_
    refine jx_aload_n (i := 2) d_L_law_1282 rfl rfl ?_
    refine jx_aload_n (i := 0) d_L_law_1283 rfl rfl ?_
    refine jx_iload d_L_law_1284 rfl ?_
    refine jx_iconst (v := 1) d_L_law_1286 (by decide) ?_
    refine jx_iadd d_L_law_1287 ?_
    refine jx_sldj d_L_law_1288 (es1 _) (by omega) (by assumption) ?_
    refine jx_i2l d_L_law_1289 ?_
    refine jx_bipush (v := 32) d_L_law_1290 (by decide) ?_
    refine jx_lshl d_L_law_1292 ?_
    refine jx_aload_n (i := 0) d_L_law_1293 rfl rfl ?_
    refine jx_iload d_L_law_1294 rfl ?_
    refine jx_iconst (v := 2) d_L_law_1296 (by decide) ?_
    refine jx_iadd d_L_law_1297 ?_
    refine jx_sldj d_L_law_1298 (es2 _) (by omega) (by assumption) ?_
    refine jx_i2l d_L_law_1299 ?_
    refine jx_ldc2 d_L_law_1300 rfl nv_L_82 ?_
    refine jx_land d_L_law_1303 ?_
    refine jx_lor d_L_law_1304 ?_
    refine jx_callV1 d_L_law_1305 mv_L_136 (hB1 _) rfl (jx_okl hRm (by omega) (Nat.le_of_ble_eq_true rfl)) (Nat.le_of_ble_eq_true rfl) (by omega) (by omega) (c_M_folded (d := 10) (by omega) (hN1 _) (fun j2 g1 M2 hN2 hf2 => ?_) (fun h => by rw [e1] at h; cases h))
    try dsimp only [Option.toList, List.cons_append, List.nil_append]
    · try dsimp only [Option.toList, List.cons_append, List.nil_append]
      refine jx_istore d_L_law_1308 (Nat.le_of_ble_eq_true rfl) (jx_e8_6 (by trivial)) ?_
      exact t0_folded (jx_okl hRm (by omega) (by omega)) (by omega) (by omega) hN2 ((hf2 _ (by omega)).trans (jx_up_s _ _ _)) (jx_wi (by omega) (by omega) (k M2 _ (fin M2 _ _ _ (Nat.le_refl _) hN2 (fun q hq => (hf2 q (by omega)).trans (jx_up_n _ _ (by omega))) ((hf2 _ (by omega)).trans (jx_up_s _ _ _)))))
  · try dsimp only [Option.toList, List.cons_append, List.nil_append]
    have hN1 := hN
    have hB1 := hB
    refine jx_istore d_L_law_1280 (Nat.le_of_ble_eq_true rfl) (jx_e8_5 (by trivial)) ?_
    refine jx_aload_n (i := 2) d_L_law_1282 rfl rfl ?_
    refine jx_aload_n (i := 0) d_L_law_1283 rfl rfl ?_
    refine jx_iload d_L_law_1284 rfl ?_
    refine jx_iconst (v := 1) d_L_law_1286 (by decide) ?_
    refine jx_iadd d_L_law_1287 ?_
    refine jx_sldj d_L_law_1288 (es1 _) (by omega) (by assumption) ?_
    refine jx_i2l d_L_law_1289 ?_
    refine jx_bipush (v := 32) d_L_law_1290 (by decide) ?_
    refine jx_lshl d_L_law_1292 ?_
    refine jx_aload_n (i := 0) d_L_law_1293 rfl rfl ?_
    refine jx_iload d_L_law_1294 rfl ?_
    refine jx_iconst (v := 2) d_L_law_1296 (by decide) ?_
    refine jx_iadd d_L_law_1297 ?_
    refine jx_sldj d_L_law_1298 (es2 _) (by omega) (by assumption) ?_
    refine jx_i2l d_L_law_1299 ?_
    refine jx_ldc2 d_L_law_1300 rfl nv_L_82 ?_
    refine jx_land d_L_law_1303 ?_
    refine jx_lor d_L_law_1304 ?_
    refine jx_callV1 d_L_law_1305 mv_L_136 hB1 rfl (jx_okl hRm (by omega) (Nat.le_of_ble_eq_true rfl)) (Nat.le_of_ble_eq_true rfl) (by omega) (by omega) (c_M_folded (d := 10) (by omega) hN1 (fun j2 g1 => by rw [e1] at g1; cases g1) (fun _ M2 hN2 hf2 => ?_))
    try dsimp only [Option.toList, List.cons_append, List.nil_append]
    · try dsimp only [Option.toList, List.cons_append, List.nil_append]
      refine jx_istore d_L_law_1308 (Nat.le_of_ble_eq_true rfl) (jx_e8_6 (by trivial)) ?_
      exact tx_folded (jx_okl hRm (by omega) (by omega)) (by omega) (by omega) (by decide) hN2 (jx_wi (by omega) (by omega) (k M2 _ (fin M2 _ _ _ hsz hN2 (fun q hq => hf2 q (by omega)) ((hf2 _ (by omega)).trans hout))))
theorem o_joined (hRm : 12 ≤ R.frames ∧ 482 ≤ R.locals) (hc : kc + 5 ≤ R.cells) (hs : ks + 178 ≤ R.slots) (hl : jx_sl G ≤ 3588) (hi : 4 + 7 * c + 7 ≤ jx_sl G) (hset : sp_set la wi en pe A Wd P) (hJ : JI G a c la wi en pe A P M sz) (k : ∀ M' sz', JI G a (c + 1) la wi en pe A P M' sz' → jx_V md_L_law [] G R Q 1411 [some (.ref (jx_sa G)), some (.ref a), some (.ref (a + 9)), some (.ref (a + 23)), some (.int (nI (4 + 7 * c))), none, none, none] [] M' sz' (kc + 5) (ks + 178)) : jx_V md_L_law [] G R Q 1348 [some (.ref (jx_sa G)), some (.ref a), some (.ref (a + 9)), some (.ref (a + 23)), some (.int (nI (4 + 7 * c))), none, none, none] [] M sz kc ks := by
  obtain ⟨lo, far, kar, lr, fr, gt, lt, tk, lc, db, fc, le, nF, fo, fd, fw, nK, ko, nm, kd, nS, sn, nA, ac, nO, oc, cd, ou, g, T, q, hW, hN, hout, hlo, hP⟩ := hJ
  obtain ⟨w1, w2, w3, w4, w5, w6, w7, w8, w9⟩ := id hW
  obtain ⟨hP1, hP2, hq, hP4, hP5, hP6, hP7, hP8⟩ := id hP
  have hnF := w8.1.2.1
  have hnK := w9.2.1
  obtain ⟨mk, ki, st, nu, fa, fl, nn, si, wo, ti, va, so, hmk, hB, -⟩ := id hN
  have fin : ∀ M2 sz2 cd2 ou2, sz ≤ sz2 → mW M2 (a + 9) la wi en pe cd2 lr fr gt lt tk lc db fc le nF fd fw nK nm kd nS sn nA ac nO oc → (∀ q, (a ≤ q ∧ q ≤ a + 8) ∨ a + 24 ≤ q → M2 q = M q) → M2 (a + 23) = some (kf_la 1 ou2) → JI G a (c + 1) la wi en pe A P M2 sz2 := fun M2 sz2 cd2 ou2 s1 s2 s3 s4 => ⟨lo, far, kar, lr, fr, gt, lt, tk, lc, db, fc, le, nF, fo, fd, fw, nK, ko, nm, kd, nS, sn, nA, ac, nO, oc, cd2, ou2, g, T, q, hW.to s3, s2, s4, by omega, hP.step⟩
  refine jx_aload_n (i := 1) d_L_law_1348 rfl rfl ?_
  refine jx_aload_n (i := 0) d_L_law_1349 rfl rfl ?_
  refine jx_iload d_L_law_1350 rfl ?_
  refine jx_iconst (v := 1) d_L_law_1352 (by decide) ?_
  refine jx_iadd d_L_law_1353 ?_
  refine jx_sldj d_L_law_1354 (es1 _) (by omega) (by assumption) ?_
  refine jx_aload_n (i := 3) d_L_law_1355 rfl rfl ?_
  refine jx_callH (hh2 := mh_L_joined) (As := [.ref a, .int _, .ref (a + 23)]) d_L_law_1356 mk_L_137 pn_joined (jx_okl hRm (show 10 ≤ 10 by omega) (Nat.le_of_ble_eq_true rfl)) rfl rfl (Nat.le_of_ble_eq_true rfl) (by omega) (by omega) (c_L_joined (d := 10) (by omega) w1 (fun Z2 ZX2 h0 h1 => c_K_joined (d := 9) (by omega) w1 w8 w9 (fun f e1 e2 => h0 _ ou _ _ hout ?_) (fun e1 sz' hsz => h1 _ _ ?_)))
  · try dsimp only [Option.toList, List.cons_append, List.nil_append]
    have hN1 := fun e => hN.to (M' := jx_up M (a + 23) e) (fun q q1 q2 => jx_up_n _ _ (by omega))
    have hB1 := fun e => (jx_up_n M e (show a + 9 ≠ a + 23 by omega)).trans hB
    refine jx_istore d_L_law_1359 (Nat.le_of_ble_eq_true rfl) (jx_e8_5 (by trivial)) ?_
    refine jx_aload_n (i := 2) d_L_law_1361 rfl rfl ?_
    refine jx_aload_n (i := 0) d_L_law_1362 rfl rfl ?_
    refine jx_iload d_L_law_1363 rfl ?_
    refine jx_iconst (v := 1) d_L_law_1365 (by decide) ?_
    refine jx_iadd d_L_law_1366 ?_
    refine jx_sldj d_L_law_1367 (es1 _) (by omega) (by assumption) ?_
    refine jx_callV1 d_L_law_1368 mv_L_139 (hB1 _) rfl (jx_okl hRm (by omega) (Nat.le_of_ble_eq_true rfl)) (Nat.le_of_ble_eq_true rfl) (by omega) (by omega) (c_M_joined (d := 10) (by omega) (hN1 _) (fun f2 g1 g2 M2 hN2 hf2 => ?_) (fun h => absurd (by rw [e2, nI_toInt (by omega)]; omega) h))
    try dsimp only [Option.toList, List.cons_append, List.nil_append]
    · try dsimp only [Option.toList, List.cons_append, List.nil_append]
      obtain rfl : f2 = f := (nI_eq (by omega) (by omega)).mp (g2.symm.trans e2)
      rw [← sp_jn_jo (f := f2) (fun j hj => by rw [sp_fb_all (hq j hj).2.1]; exact (hq j hj).2.2 f2 e1)]
      refine jx_istore d_L_law_1371 (Nat.le_of_ble_eq_true rfl) (jx_e8_6 (by trivial)) ?_
      exact t0_joined (jx_okl hRm (by omega) (by omega)) (by omega) (by omega) hN2 ((hf2 _ (by omega)).trans (jx_up_s _ _ _)) (jx_wi (by omega) (by omega) (k M2 _ (fin M2 _ _ _ (Nat.le_refl _) hN2 (fun q hq => (hf2 q (by omega)).trans (jx_up_n _ _ (by omega))) ((hf2 _ (by omega)).trans (jx_up_s _ _ _)))))
  · try dsimp only [Option.toList, List.cons_append, List.nil_append]
    have hN1 := hN
    have hB1 := hB
    refine jx_istore d_L_law_1359 (Nat.le_of_ble_eq_true rfl) (jx_e8_5 (by trivial)) ?_
    refine jx_aload_n (i := 2) d_L_law_1361 rfl rfl ?_
    refine jx_aload_n (i := 0) d_L_law_1362 rfl rfl ?_
    refine jx_iload d_L_law_1363 rfl ?_
    refine jx_iconst (v := 1) d_L_law_1365 (by decide) ?_
    refine jx_iadd d_L_law_1366 ?_
    refine jx_sldj d_L_law_1367 (es1 _) (by omega) (by assumption) ?_
    refine jx_callV1 d_L_law_1368 mv_L_139 hB1 rfl (jx_okl hRm (by omega) (Nat.le_of_ble_eq_true rfl)) (Nat.le_of_ble_eq_true rfl) (by omega) (by omega) (c_M_joined (d := 10) (by omega) hN1 (fun f2 g1 g2 => absurd (by rw [g2, nI_toInt (by omega)]; omega) e1) (fun _ M2 hN2 hf2 => ?_))
    try dsimp only [Option.toList, List.cons_append, List.nil_append]
    · try dsimp only [Option.toList, List.cons_append, List.nil_append]
      refine jx_istore d_L_law_1371 (Nat.le_of_ble_eq_true rfl) (jx_e8_6 (by trivial)) ?_
      exact tx_joined (jx_okl hRm (by omega) (by omega)) (by omega) (by omega) (by decide) hN2 (jx_wi (by omega) (by omega) (k M2 _ (fin M2 _ _ _ hsz hN2 (fun q hq => hf2 q (by omega)) ((hf2 _ (by omega)).trans hout))))
end OPS
