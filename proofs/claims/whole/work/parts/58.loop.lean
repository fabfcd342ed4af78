/-! PART 58: the law's loop (by wip/whole/gen/loop.py) -/
theorem es_gt {s i : Nat} (hs : s ≤ 3588) (hi : i ≤ 4000) : nI s - 7 < nI i ↔ s < i + 7 := by
  rw [Int32.lt_iff_toInt_lt, Int32.toInt_sub, nI_toInt (by omega), nI_toInt (by omega), show (7 : Int32).toInt = 7 by decide, Int.bmod_eq_of_le (by omega) (by omega)]
  omega
theorem es_inc (c : Nat) : nI (4 + 7 * c) + Int32.ofInt 7 = nI (4 + 7 * (c + 1)) := by
  rw [show 4 + 7 * (c + 1) = 4 + 7 * c + 7 by omega, show Int32.ofInt 7 = nI 7 by decide, nI_add]
theorem JI.step {G : jx_G} {a c A P sz : Nat} {la wi en pe : Int32} {M : jx_H} (h : JI G a c la wi en pe A P M sz) : JI G a (c + 1) la wi en pe A P M sz := by
  obtain ⟨lo, far, kar, lr, fr, gt, lt, tk, lc, db, fc, le, nF, fo, fd, fw, nK, ko, nm, kd, nS, sn, nA, ac, nO, oc, cd, ou, g, T, q, hW, hN, hout, hlo, hP⟩ := h
  exact ⟨lo, far, kar, lr, fr, gt, lt, tk, lc, db, fc, le, nF, fo, fd, fw, nK, ko, nm, kd, nS, sn, nA, ac, nO, oc, cd, ou, g, T, q, hW, hN, hout, hlo, hP.step⟩
section LOOP
variable {G : jx_G} {R : Room} {Q : Array Value → State → List Frame → State → Prop} {a A Wd P : Nat} {la wi en pe : Int32}
theorem o_case {c sz kc ks : Nat} {M : jx_H} {x : Int32} (hRm : 12 ≤ R.frames ∧ 482 ≤ R.locals) (hc : kc + 5 ≤ R.cells) (hs : ks + 178 ≤ R.slots) (hl : jx_sl G ≤ 3588) (hi : 4 + 7 * c + 7 ≤ jx_sl G) (hset : sp_set la wi en pe A Wd P) (hJ : JI G a c la wi en pe A P M sz) (hx : ∃ j : Nat, j < 2 ^ 4 ∧ x = nI j) (k : ∀ M' sz', JI G a (c + 1) la wi en pe A P M' sz' → jx_V md_L_law [] G R Q 1411 [some (.ref (jx_sa G)), some (.ref a), some (.ref (a + 9)), some (.ref (a + 23)), some (.int (nI (4 + 7 * c))), none, none, none] [] M' sz' (kc + 5) (ks + 178)) : jx_V md_L_law [] G R Q 80 [some (.ref (jx_sa G)), some (.ref a), some (.ref (a + 9)), some (.ref (a + 23)), some (.int (nI (4 + 7 * c))), none, none, none] [.int x] M sz kc ks := by
  obtain ⟨j, hj, rfl⟩ := hx
  rcases (show j = 0 ∨ j = 1 ∨ j = 2 ∨ j = 3 ∨ j = 4 ∨ j = 5 ∨ j = 6 ∨ j = 7 ∨ j = 8 ∨ j = 9 ∨ j = 10 ∨ j = 11 ∨ j = 12 ∨ j = 13 ∨ 14 ≤ j by omega) with rfl | rfl | rfl | rfl | rfl | rfl | rfl | rfl | rfl | rfl | rfl | rfl | rfl | rfl | hj2
  · exact jx_tableIn (off := 72) (tgt := 152) d_L_law_80 (by decide) (by decide) (by decide) (by decide) (o_fold hRm hc hs hl hi hset hJ k)
  · exact jx_tableIn (off := 216) (tgt := 296) d_L_law_80 (by decide) (by decide) (by decide) (by decide) (o_failsAt hRm hc hs hl hi hset hJ k)
  · exact jx_tableIn (off := 316) (tgt := 396) d_L_law_80 (by decide) (by decide) (by decide) (by decide) (o_rule hRm hc hs hl hi hset hJ k)
  · exact jx_tableIn (off := 384) (tgt := 464) d_L_law_80 (by decide) (by decide) (by decide) (by decide) (o_row hRm hc hs hl hi hset hJ k)
  · exact jx_tableIn (off := 562) (tgt := 642) d_L_law_80 (by decide) (by decide) (by decide) (by decide) (o_resume hRm hc hs hl hi hset hJ k)
  · exact jx_tableIn (off := 630) (tgt := 710) d_L_law_80 (by decide) (by decide) (by decide) (by decide) (o_state hRm hc hs hl hi hset hJ k)
  · exact jx_tableIn (off := 729) (tgt := 809) d_L_law_80 (by decide) (by decide) (by decide) (by decide) (o_key hRm hc hs hl hi hset hJ k)
  · exact jx_tableIn (off := 829) (tgt := 909) d_L_law_80 (by decide) (by decide) (by decide) (by decide) (o_rowOf hRm hc hs hl hi hset hJ k)
  · exact jx_tableIn (off := 940) (tgt := 1020) d_L_law_80 (by decide) (by decide) (by decide) (by decide) (o_aside hRm hc hs hl hi hset hJ k)
  · exact jx_tableIn (off := 1007) (tgt := 1087) d_L_law_80 (by decide) (by decide) (by decide) (by decide) (o_output hRm hc hs hl hi hset hJ k)
  · exact jx_tableIn (off := 1074) (tgt := 1154) d_L_law_80 (by decide) (by decide) (by decide) (by decide) (o_watermark hRm hc hs hl hi hset hJ k)
  · exact jx_tableIn (off := 1117) (tgt := 1197) d_L_law_80 (by decide) (by decide) (by decide) (by decide) (o_told hRm hc hs hl hi hset hJ k)
  · exact jx_tableIn (off := 1173) (tgt := 1253) d_L_law_80 (by decide) (by decide) (by decide) (by decide) (o_folded hRm hc hs hl hi hset hJ k)
  · exact jx_tableIn (off := 1268) (tgt := 1348) d_L_law_80 (by decide) (by decide) (by decide) (by decide) (o_joined hRm hc hs hl hi hset hJ k)
  · refine jx_tableOut (tgt := 1411) d_L_law_80 (Or.inr ?_) (by decide) (jx_wi (by omega) (by omega) (k M sz hJ.step))
    rw [nI_toInt (by omega)]
    omega
theorem o_loop (hRm : 12 ≤ R.frames ∧ 482 ≤ R.locals) (hRc : 2700 ≤ R.cells) (hRs : 120000 ≤ R.slots) (hl : jx_sl G ≤ 3588) (hset : sp_set la wi en pe A Wd P) (ke : ∀ i M' sz', jx_V md_L_law [] G R Q 1418 [some (.ref (jx_sa G)), some (.ref a), some (.ref (a + 9)), some (.ref (a + 23)), some (.int i), none, none, none] [.int 1] M' sz' 2700 120000) : ∀ (n c sz : Nat) (M : jx_H), 513 ≤ c + n → c ≤ 512 → JI G a c la wi en pe A P M sz → jx_V md_L_law [] G R Q 63 [some (.ref (jx_sa G)), some (.ref a), some (.ref (a + 9)), some (.ref (a + 23)), some (.int (nI (4 + 7 * c))), none, none, none] [] M sz (30 + 5 * c) (20000 + 178 * c) := by
  intro n
  induction n with
  | zero => intro c sz M h1 h2; omega
  | succ n ih =>
    intro c sz M h1 h2 hJ
    refine jx_iload d_L_law_63 rfl ?_
    refine jx_aload_n (i := 0) d_L_law_65 rfl rfl ?_
    refine jx_slen d_L_law_66 ?_
    refine jx_bipush (v := 7) d_L_law_67 (by decide) ?_
    refine jx_isub d_L_law_69 ?_
    refine jx_icmp_gt (tgt := 1417) d_L_law_70 (by decide) (fun c70 => ?_) (fun c70 => ?_)
    · refine jx_iconst (v := 1) d_L_law_1417 (by decide) ?_
      exact jx_wi (by omega) (by omega) (ke _ M sz)
    · have hi : 4 + 7 * c + 7 ≤ jx_sl G := by
        have := mt (es_gt hl (by omega)).mpr c70
        omega
      refine jx_aload_n (i := 0) d_L_law_73 rfl rfl ?_
      refine jx_iload d_L_law_74 rfl ?_
      refine jx_sldj d_L_law_76 rfl (by omega) hl ?_
      refine jx_bipush (v := 15) d_L_law_77 (by decide) ?_
      refine jx_iand d_L_law_79 ?_
      refine o_case hRm (by omega) (by omega) hl hi hset hJ (pk_andE _ 4 (by decide)) (fun M' sz' hJ' => ?_)
      refine jx_iincX (v := nI (4 + 7 * (c + 1))) d_L_law_1411 rfl (es_inc c) (Nat.le_of_ble_eq_true rfl) (jx_e8_4 (by trivial)) ?_
      refine jx_goto (tgt := 63) d_L_law_1414 (by decide) ?_
      exact jx_wi (by omega) (by omega) (ih (c + 1) sz' M' (by omega) (by omega) hJ')
end LOOP
