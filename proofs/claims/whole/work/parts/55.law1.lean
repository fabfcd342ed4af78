/-! PART 55: the law: the script; tails of its cases (by wip/whole/gen/law.py) -/
section JXS
variable {y : jx_md} {hh : jx_h4} {G : jx_G} {R : Room} {Q : Array Value → State → List Frame → State → Prop} {pc : Nat} {l : List (Option Value)} {st : List Value} {M : jx_H} {sz kc ks : Nat}
theorem jx_sldj {j : Nat} {x : Int32} (dc : decode y.2.1 pc = .ok (.iaload, 1)) (e : x = nI j) (hj : j < jx_sl G) (hlen : jx_sl G ≤ 3588) (kk : jx_V y hh G R Q (pc + 1) l (.int (jx_sx G j) :: st) M sz kc ks) : jx_V y hh G R Q pc l (.int x :: .ref (jx_sa G) :: st) M sz kc ks := by
  intro p L e9 s m args below meth c C K H locs ls hR hS hL
  obtain ⟨hx, hb, hr, hml, hown, hts, hlk, hnm, hex, hst⟩ := id C
  subst e
  refine va_sld (A := fun q => jx_B G ≤ q) hx hb K.2.2.1 (Nat.lt_of_lt_of_le K.2.2.2.1 K.2.2.2.2.2.2.2.2.2.1) (Nat.not_le.mpr K.2.2.2.1) hS.va (vp_in_nI hj (by omega)) dc ?_
  rw [nI_clamp (by omega)]
  exact kk p L e9 s m args below meth c C K H locs ls hR hS hL
theorem jx_slen (dc : decode y.2.1 pc = .ok (.arraylength, 1)) (kk : jx_V y hh G R Q (pc + 1) l (.int (nI (jx_sl G)) :: st) M sz kc ks) : jx_V y hh G R Q pc l (.ref (jx_sa G) :: st) M sz kc ks := by
  intro p L e9 s m args below meth c C K H locs ls hR hS hL
  obtain ⟨hx, hb, hr, hml, hown, hts, hlk, hnm, hex, hst⟩ := id C
  exact va_slen (A := fun q => jx_B G ≤ q) hx hb K.2.2.1 (Nat.lt_of_lt_of_le K.2.2.2.1 K.2.2.2.2.2.2.2.2.2.1) (Nat.not_le.mpr K.2.2.2.1) hS.va dc (kk p L e9 s m args below meth c C K H locs ls hR hS hL)
end JXS
theorem es1 (i : Nat) : nI i + 1 = nI (i + 1) := nI_add i 1
theorem es2 (i : Nat) : nI i + 2 = nI (i + 2) := nI_add i 2
theorem es3 (i : Nat) : nI i + 3 = nI (i + 3) := nI_add i 3
theorem es4 (i : Nat) : nI i + 4 = nI (i + 4) := nI_add i 4
theorem es5 (i : Nat) : nI i + 5 = nI (i + 5) := nI_add i 5
theorem es6 (i : Nat) : nI i + 6 = nI (i + 6) := nI_add i 6
/-- an int of the script, 0 behind its end -/
def sp_cell (G : jx_G) (k : Nat) : Int32 := if k < jx_sl G then jx_sx G k else 0
theorem c_L_cell {G : jx_G} {d k sz : Nat} {M : jx_H} {Z : Option Value → jx_H → Nat → Prop} (hl : jx_sl G ≤ 3588) (hk : k < 10) (kk : Z (some (.int (sp_cell G k))) M sz) : jx_Cr md_L_cell G d [.ref (jx_sa G), .int (nI k)] M sz 0 0 Z := by
  refine jx_ent rfl (Nat.le_of_ble_eq_true rfl) (l := [some (.ref (jx_sa G)), some (.int (nI k))]) (by simp [jx_le, jx_eas, Value.category]) (fun hlt => ?_)
  refine jx_iload_n (i := 1) d_L_cell_0 rfl rfl ?_
  refine jx_aload_n (i := 0) d_L_cell_1 rfl rfl ?_
  refine jx_slen d_L_cell_2 ?_
  refine jx_icmp_ge (tgt := 12) d_L_cell_3 (by decide) (fun c3 => ?_) (fun c3 => ?_)
  · have := (nI_leI (by omega) (by omega)).mp c3
    refine jx_iconst (v := 0) d_L_cell_12 (by decide) ?_
    exact jx_iret d_L_cell_13 rfl (by omega) (by omega) (by rw [sp_cell, if_neg (by omega)] at kk; exact kk)
  · have : k < jx_sl G := by
      rcases Nat.lt_or_ge k (jx_sl G) with h | h
      · exact h
      · exact absurd ((nI_leI (by omega) (by omega)).mpr h) c3
    refine jx_aload_n (i := 0) d_L_cell_6 rfl rfl ?_
    refine jx_iload_n (i := 1) d_L_cell_7 rfl rfl ?_
    refine jx_sldj d_L_cell_8 rfl this (by assumption) ?_
    refine jx_goto (tgt := 13) d_L_cell_9 (by decide) ?_
    exact jx_iret d_L_cell_13 rfl (by omega) (by omega) (by rw [sp_cell, if_pos this] at kk; exact kk)
section TLS
variable {G : jx_G} {R : Room} {Q : Array Value → State → List Frame → State → Prop} {a sz kc ks nF nK nS nA nO : Nat} {la wi en pe lr fr tk lc db fc le i : Int32} {gt lt : Int64} {nm : Nat → Int64} {kd : Nat → sp_key} {fd : sp_fd} {fw : Nat → Nat → Int64} {sn ac oc : Nat → Int64} {M : jx_H}
theorem tx_fold {x : Int32} {y7 : Option Value} {kk : Int32} (hok : jx_ok R 0 1) (hc1 : kc ≤ R.cells) (hs1 : ks ≤ R.slots) (h0 : ¬ kk = 0) (hN : mW M (a + 9) la wi en pe kk lr fr gt lt tk lc db fc le nF fd fw nK nm kd nS sn nA ac nO oc) (k : jx_V md_L_law [] G R Q 1411 [some (.ref (jx_sa G)), some (.ref a), some (.ref (a + 9)), some (.ref (a + 23)), some (.int i), none, none, none] [] M sz kc ks) : jx_V md_L_law [] G R Q 265 [some (.ref (jx_sa G)), some (.ref a), some (.ref (a + 9)), some (.ref (a + 23)), some (.int i), some (.int kk), some (.int x), y7] [] M sz kc ks := by
  obtain ⟨mk, ki, st, nu, fa, fl, nn, si, wo, ti, va, so, hmk, hB, -⟩ := id hN
  refine jx_aload_n (i := 2) d_L_law_265 rfl rfl ?_
  refine jx_callV0 d_L_law_266 mv_L_88 hB rfl hok (Nat.le_of_ble_eq_true rfl) hc1 hs1 (c_M_thrown (d := 0) hN ?_)
  dsimp only [Option.toList, List.cons_append, List.nil_append]
  refine jx_iload d_L_law_269 rfl ?_
  refine jx_icmp_eq (tgt := 276) d_L_law_271 (by decide) (fun c271 => ?_) (fun c271 => ?_)
  · refine jx_iload d_L_law_276 rfl ?_
    refine jx_if_ne (tgt := 293) d_L_law_278 (by decide) (fun c278 => ?_) (fun c278 => ?_)
    · refine jx_goto (tgt := 1411) d_L_law_293 (by decide) ?_
      refine jx_wk (l' := [some (.ref (jx_sa G)), some (.ref a), some (.ref (a + 9)), some (.ref (a + 23)), some (.int i), none, none, none]) (by simp [jx_le]) ?_
      exact k
    · exact absurd c278 h0
  · exact absurd rfl c271
theorem t0_fold {x : Int32} {y7 : Option Value} {f : Nat → Int64} (hok : jx_ok R 0 1) (hc1 : kc ≤ R.cells) (hs1 : ks ≤ R.slots) (hN : mW M (a + 9) la wi en pe 0 lr fr gt lt tk lc db fc le nF fd fw nK nm kd nS sn nA ac nO oc) (hout : M (a + 23) = some (kf_la 1 (vp_updL f 0 x.toInt64))) (k : jx_V md_L_law [] G R Q 1411 [some (.ref (jx_sa G)), some (.ref a), some (.ref (a + 9)), some (.ref (a + 23)), some (.int i), none, none, none] [] M sz kc ks) : jx_V md_L_law [] G R Q 265 [some (.ref (jx_sa G)), some (.ref a), some (.ref (a + 9)), some (.ref (a + 23)), some (.int i), some (.int 0), some (.int x), y7] [] M sz kc ks := by
  obtain ⟨mk, ki, st, nu, fa, fl, nn, si, wo, ti, va, so, hmk, hB, -⟩ := id hN
  refine jx_aload_n (i := 2) d_L_law_265 rfl rfl ?_
  refine jx_callV0 d_L_law_266 mv_L_88 hB rfl hok (Nat.le_of_ble_eq_true rfl) hc1 hs1 (c_M_thrown (d := 0) hN ?_)
  dsimp only [Option.toList, List.cons_append, List.nil_append]
  refine jx_iload d_L_law_269 rfl ?_
  refine jx_icmp_eq (tgt := 276) d_L_law_271 (by decide) (fun c271 => ?_) (fun c271 => ?_)
  · refine jx_iload d_L_law_276 rfl ?_
    refine jx_if_ne (tgt := 293) d_L_law_278 (by decide) (fun c278 => ?_) (fun c278 => ?_)
    · exact absurd rfl c278
    · refine jx_aload_n (i := 3) d_L_law_281 rfl rfl ?_
      refine jx_iconst (v := 0) d_L_law_282 (by decide) ?_
      refine jx_laldj d_L_law_283 hout (show (0 : Int32) = nI 0 from rfl) (by omega) (by omega) ?_
      refine jx_iload d_L_law_284 rfl ?_
      refine jx_i2l d_L_law_286 ?_
      refine jx_l_eq (tgt := 293) d_L_law_287 d_L_law_288 (by decide) (fun c287 => ?_) (fun c287 => ?_)
      · refine jx_goto (tgt := 1411) d_L_law_293 (by decide) ?_
        refine jx_wk (l' := [some (.ref (jx_sa G)), some (.ref a), some (.ref (a + 9)), some (.ref (a + 23)), some (.int i), none, none, none]) (by simp [jx_le]) ?_
        exact k
      · exact absurd (by rw [updL_s]) c287
  · exact absurd rfl c271
theorem tx_failsAt {x : Int32} {y7 : Option Value} {kk : Int32} (hok : jx_ok R 0 1) (hc1 : kc ≤ R.cells) (hs1 : ks ≤ R.slots) (h0 : ¬ kk = 0) (hN : mW M (a + 9) la wi en pe kk lr fr gt lt tk lc db fc le nF fd fw nK nm kd nS sn nA ac nO oc) (k : jx_V md_L_law [] G R Q 1411 [some (.ref (jx_sa G)), some (.ref a), some (.ref (a + 9)), some (.ref (a + 23)), some (.int i), none, none, none] [] M sz kc ks) : jx_V md_L_law [] G R Q 365 [some (.ref (jx_sa G)), some (.ref a), some (.ref (a + 9)), some (.ref (a + 23)), some (.int i), some (.int kk), some (.int x), y7] [] M sz kc ks := by
  obtain ⟨mk, ki, st, nu, fa, fl, nn, si, wo, ti, va, so, hmk, hB, -⟩ := id hN
  refine jx_aload_n (i := 2) d_L_law_365 rfl rfl ?_
  refine jx_callV0 d_L_law_366 mv_L_88 hB rfl hok (Nat.le_of_ble_eq_true rfl) hc1 hs1 (c_M_thrown (d := 0) hN ?_)
  dsimp only [Option.toList, List.cons_append, List.nil_append]
  refine jx_iload d_L_law_369 rfl ?_
  refine jx_icmp_eq (tgt := 376) d_L_law_371 (by decide) (fun c371 => ?_) (fun c371 => ?_)
  · refine jx_iload d_L_law_376 rfl ?_
    refine jx_if_ne (tgt := 393) d_L_law_378 (by decide) (fun c378 => ?_) (fun c378 => ?_)
    · refine jx_goto (tgt := 1411) d_L_law_393 (by decide) ?_
      refine jx_wk (l' := [some (.ref (jx_sa G)), some (.ref a), some (.ref (a + 9)), some (.ref (a + 23)), some (.int i), none, none, none]) (by simp [jx_le]) ?_
      exact k
    · exact absurd c378 h0
  · exact absurd rfl c371
theorem t0_failsAt {x : Int32} {y7 : Option Value} {f : Nat → Int64} (hok : jx_ok R 0 1) (hc1 : kc ≤ R.cells) (hs1 : ks ≤ R.slots) (hN : mW M (a + 9) la wi en pe 0 lr fr gt lt tk lc db fc le nF fd fw nK nm kd nS sn nA ac nO oc) (hout : M (a + 23) = some (kf_la 1 (vp_updL f 0 x.toInt64))) (k : jx_V md_L_law [] G R Q 1411 [some (.ref (jx_sa G)), some (.ref a), some (.ref (a + 9)), some (.ref (a + 23)), some (.int i), none, none, none] [] M sz kc ks) : jx_V md_L_law [] G R Q 365 [some (.ref (jx_sa G)), some (.ref a), some (.ref (a + 9)), some (.ref (a + 23)), some (.int i), some (.int 0), some (.int x), y7] [] M sz kc ks := by
  obtain ⟨mk, ki, st, nu, fa, fl, nn, si, wo, ti, va, so, hmk, hB, -⟩ := id hN
  refine jx_aload_n (i := 2) d_L_law_365 rfl rfl ?_
  refine jx_callV0 d_L_law_366 mv_L_88 hB rfl hok (Nat.le_of_ble_eq_true rfl) hc1 hs1 (c_M_thrown (d := 0) hN ?_)
  dsimp only [Option.toList, List.cons_append, List.nil_append]
  refine jx_iload d_L_law_369 rfl ?_
  refine jx_icmp_eq (tgt := 376) d_L_law_371 (by decide) (fun c371 => ?_) (fun c371 => ?_)
  · refine jx_iload d_L_law_376 rfl ?_
    refine jx_if_ne (tgt := 393) d_L_law_378 (by decide) (fun c378 => ?_) (fun c378 => ?_)
    · exact absurd rfl c378
    · refine jx_aload_n (i := 3) d_L_law_381 rfl rfl ?_
      refine jx_iconst (v := 0) d_L_law_382 (by decide) ?_
      refine jx_laldj d_L_law_383 hout (show (0 : Int32) = nI 0 from rfl) (by omega) (by omega) ?_
      refine jx_iload d_L_law_384 rfl ?_
      refine jx_i2l d_L_law_386 ?_
      refine jx_l_eq (tgt := 393) d_L_law_387 d_L_law_388 (by decide) (fun c387 => ?_) (fun c387 => ?_)
      · refine jx_goto (tgt := 1411) d_L_law_393 (by decide) ?_
        refine jx_wk (l' := [some (.ref (jx_sa G)), some (.ref a), some (.ref (a + 9)), some (.ref (a + 23)), some (.int i), none, none, none]) (by simp [jx_le]) ?_
        exact k
      · exact absurd (by rw [updL_s]) c387
  · exact absurd rfl c371
theorem tx_rule {x : Int32} {y7 : Option Value} {kk : Int32} (hok : jx_ok R 0 1) (hc1 : kc ≤ R.cells) (hs1 : ks ≤ R.slots) (h0 : ¬ kk = 0) (hN : mW M (a + 9) la wi en pe kk lr fr gt lt tk lc db fc le nF fd fw nK nm kd nS sn nA ac nO oc) (k : jx_V md_L_law [] G R Q 1411 [some (.ref (jx_sa G)), some (.ref a), some (.ref (a + 9)), some (.ref (a + 23)), some (.int i), none, none, none] [] M sz kc ks) : jx_V md_L_law [] G R Q 433 [some (.ref (jx_sa G)), some (.ref a), some (.ref (a + 9)), some (.ref (a + 23)), some (.int i), some (.int kk), some (.int x), y7] [] M sz kc ks := by
  obtain ⟨mk, ki, st, nu, fa, fl, nn, si, wo, ti, va, so, hmk, hB, -⟩ := id hN
  refine jx_aload_n (i := 2) d_L_law_433 rfl rfl ?_
  refine jx_callV0 d_L_law_434 mv_L_88 hB rfl hok (Nat.le_of_ble_eq_true rfl) hc1 hs1 (c_M_thrown (d := 0) hN ?_)
  dsimp only [Option.toList, List.cons_append, List.nil_append]
  refine jx_iload d_L_law_437 rfl ?_
  refine jx_icmp_eq (tgt := 444) d_L_law_439 (by decide) (fun c439 => ?_) (fun c439 => ?_)
  · refine jx_iload d_L_law_444 rfl ?_
    refine jx_if_ne (tgt := 461) d_L_law_446 (by decide) (fun c446 => ?_) (fun c446 => ?_)
    · refine jx_goto (tgt := 1411) d_L_law_461 (by decide) ?_
      refine jx_wk (l' := [some (.ref (jx_sa G)), some (.ref a), some (.ref (a + 9)), some (.ref (a + 23)), some (.int i), none, none, none]) (by simp [jx_le]) ?_
      exact k
    · exact absurd c446 h0
  · exact absurd rfl c439
theorem t0_rule {x : Int32} {y7 : Option Value} {f : Nat → Int64} (hok : jx_ok R 0 1) (hc1 : kc ≤ R.cells) (hs1 : ks ≤ R.slots) (hN : mW M (a + 9) la wi en pe 0 lr fr gt lt tk lc db fc le nF fd fw nK nm kd nS sn nA ac nO oc) (hout : M (a + 23) = some (kf_la 1 (vp_updL f 0 x.toInt64))) (k : jx_V md_L_law [] G R Q 1411 [some (.ref (jx_sa G)), some (.ref a), some (.ref (a + 9)), some (.ref (a + 23)), some (.int i), none, none, none] [] M sz kc ks) : jx_V md_L_law [] G R Q 433 [some (.ref (jx_sa G)), some (.ref a), some (.ref (a + 9)), some (.ref (a + 23)), some (.int i), some (.int 0), some (.int x), y7] [] M sz kc ks := by
  obtain ⟨mk, ki, st, nu, fa, fl, nn, si, wo, ti, va, so, hmk, hB, -⟩ := id hN
  refine jx_aload_n (i := 2) d_L_law_433 rfl rfl ?_
  refine jx_callV0 d_L_law_434 mv_L_88 hB rfl hok (Nat.le_of_ble_eq_true rfl) hc1 hs1 (c_M_thrown (d := 0) hN ?_)
  dsimp only [Option.toList, List.cons_append, List.nil_append]
  refine jx_iload d_L_law_437 rfl ?_
  refine jx_icmp_eq (tgt := 444) d_L_law_439 (by decide) (fun c439 => ?_) (fun c439 => ?_)
  · refine jx_iload d_L_law_444 rfl ?_
    refine jx_if_ne (tgt := 461) d_L_law_446 (by decide) (fun c446 => ?_) (fun c446 => ?_)
    · exact absurd rfl c446
    · refine jx_aload_n (i := 3) d_L_law_449 rfl rfl ?_
      refine jx_iconst (v := 0) d_L_law_450 (by decide) ?_
      refine jx_laldj d_L_law_451 hout (show (0 : Int32) = nI 0 from rfl) (by omega) (by omega) ?_
      refine jx_iload d_L_law_452 rfl ?_
      refine jx_i2l d_L_law_454 ?_
      refine jx_l_eq (tgt := 461) d_L_law_455 d_L_law_456 (by decide) (fun c455 => ?_) (fun c455 => ?_)
      · refine jx_goto (tgt := 1411) d_L_law_461 (by decide) ?_
        refine jx_wk (l' := [some (.ref (jx_sa G)), some (.ref a), some (.ref (a + 9)), some (.ref (a + 23)), some (.int i), none, none, none]) (by simp [jx_le]) ?_
        exact k
      · exact absurd (by rw [updL_s]) c455
  · exact absurd rfl c439
theorem tx_row {x : Int32} {y7 : Option Value} {kk : Int32} (hok : jx_ok R 0 1) (hc1 : kc ≤ R.cells) (hs1 : ks ≤ R.slots) (h0 : ¬ kk = 0) (hN : mW M (a + 9) la wi en pe kk lr fr gt lt tk lc db fc le nF fd fw nK nm kd nS sn nA ac nO oc) (k : jx_V md_L_law [] G R Q 1411 [some (.ref (jx_sa G)), some (.ref a), some (.ref (a + 9)), some (.ref (a + 23)), some (.int i), none, none, none] [] M sz kc ks) : jx_V md_L_law [] G R Q 611 [some (.ref (jx_sa G)), some (.ref a), some (.ref (a + 9)), some (.ref (a + 23)), some (.int i), some (.int kk), some (.int x), y7] [] M sz kc ks := by
  obtain ⟨mk, ki, st, nu, fa, fl, nn, si, wo, ti, va, so, hmk, hB, -⟩ := id hN
  refine jx_aload_n (i := 2) d_L_law_611 rfl rfl ?_
  refine jx_callV0 d_L_law_612 mv_L_88 hB rfl hok (Nat.le_of_ble_eq_true rfl) hc1 hs1 (c_M_thrown (d := 0) hN ?_)
  dsimp only [Option.toList, List.cons_append, List.nil_append]
  refine jx_iload d_L_law_615 rfl ?_
  refine jx_icmp_eq (tgt := 622) d_L_law_617 (by decide) (fun c617 => ?_) (fun c617 => ?_)
  · refine jx_iload d_L_law_622 rfl ?_
    refine jx_if_ne (tgt := 639) d_L_law_624 (by decide) (fun c624 => ?_) (fun c624 => ?_)
    · refine jx_goto (tgt := 1411) d_L_law_639 (by decide) ?_
      refine jx_wk (l' := [some (.ref (jx_sa G)), some (.ref a), some (.ref (a + 9)), some (.ref (a + 23)), some (.int i), none, none, none]) (by simp [jx_le]) ?_
      exact k
    · exact absurd c624 h0
  · exact absurd rfl c617
theorem t0_row {x : Int32} {y7 : Option Value} {f : Nat → Int64} (hok : jx_ok R 0 1) (hc1 : kc ≤ R.cells) (hs1 : ks ≤ R.slots) (hN : mW M (a + 9) la wi en pe 0 lr fr gt lt tk lc db fc le nF fd fw nK nm kd nS sn nA ac nO oc) (hout : M (a + 23) = some (kf_la 1 (vp_updL f 0 x.toInt64))) (k : jx_V md_L_law [] G R Q 1411 [some (.ref (jx_sa G)), some (.ref a), some (.ref (a + 9)), some (.ref (a + 23)), some (.int i), none, none, none] [] M sz kc ks) : jx_V md_L_law [] G R Q 611 [some (.ref (jx_sa G)), some (.ref a), some (.ref (a + 9)), some (.ref (a + 23)), some (.int i), some (.int 0), some (.int x), y7] [] M sz kc ks := by
  obtain ⟨mk, ki, st, nu, fa, fl, nn, si, wo, ti, va, so, hmk, hB, -⟩ := id hN
  refine jx_aload_n (i := 2) d_L_law_611 rfl rfl ?_
  refine jx_callV0 d_L_law_612 mv_L_88 hB rfl hok (Nat.le_of_ble_eq_true rfl) hc1 hs1 (c_M_thrown (d := 0) hN ?_)
  dsimp only [Option.toList, List.cons_append, List.nil_append]
  refine jx_iload d_L_law_615 rfl ?_
  refine jx_icmp_eq (tgt := 622) d_L_law_617 (by decide) (fun c617 => ?_) (fun c617 => ?_)
  · refine jx_iload d_L_law_622 rfl ?_
    refine jx_if_ne (tgt := 639) d_L_law_624 (by decide) (fun c624 => ?_) (fun c624 => ?_)
    · exact absurd rfl c624
    · refine jx_aload_n (i := 3) d_L_law_627 rfl rfl ?_
      refine jx_iconst (v := 0) d_L_law_628 (by decide) ?_
      refine jx_laldj d_L_law_629 hout (show (0 : Int32) = nI 0 from rfl) (by omega) (by omega) ?_
      refine jx_iload d_L_law_630 rfl ?_
      refine jx_i2l d_L_law_632 ?_
      refine jx_l_eq (tgt := 639) d_L_law_633 d_L_law_634 (by decide) (fun c633 => ?_) (fun c633 => ?_)
      · refine jx_goto (tgt := 1411) d_L_law_639 (by decide) ?_
        refine jx_wk (l' := [some (.ref (jx_sa G)), some (.ref a), some (.ref (a + 9)), some (.ref (a + 23)), some (.int i), none, none, none]) (by simp [jx_le]) ?_
        exact k
      · exact absurd (by rw [updL_s]) c633
  · exact absurd rfl c617
theorem tx_resume {y6 y7 : Option Value} {kk : Int32} (hok : jx_ok R 0 1) (hc1 : kc ≤ R.cells) (hs1 : ks ≤ R.slots) (h0 : ¬ kk = 0) (hN : mW M (a + 9) la wi en pe kk lr fr gt lt tk lc db fc le nF fd fw nK nm kd nS sn nA ac nO oc) (k : jx_V md_L_law [] G R Q 1411 [some (.ref (jx_sa G)), some (.ref a), some (.ref (a + 9)), some (.ref (a + 23)), some (.int i), none, none, none] [] M sz kc ks) : jx_V md_L_law [] G R Q 696 [some (.ref (jx_sa G)), some (.ref a), some (.ref (a + 9)), some (.ref (a + 23)), some (.int i), some (.int kk), y6, y7] [] M sz kc ks := by
  obtain ⟨mk, ki, st, nu, fa, fl, nn, si, wo, ti, va, so, hmk, hB, -⟩ := id hN
  refine jx_aload_n (i := 2) d_L_law_696 rfl rfl ?_
  refine jx_callV0 d_L_law_697 mv_L_88 hB rfl hok (Nat.le_of_ble_eq_true rfl) hc1 hs1 (c_M_thrown (d := 0) hN ?_)
  dsimp only [Option.toList, List.cons_append, List.nil_append]
  refine jx_iload d_L_law_700 rfl ?_
  refine jx_icmp_eq (tgt := 707) d_L_law_702 (by decide) (fun c702 => ?_) (fun c702 => ?_)
  · refine jx_goto (tgt := 1411) d_L_law_707 (by decide) ?_
    refine jx_wk (l' := [some (.ref (jx_sa G)), some (.ref a), some (.ref (a + 9)), some (.ref (a + 23)), some (.int i), none, none, none]) (by simp [jx_le]) ?_
    exact k
  · exact absurd rfl c702
theorem t0_resume {y6 y7 : Option Value} (hok : jx_ok R 0 1) (hc1 : kc ≤ R.cells) (hs1 : ks ≤ R.slots) (hN : mW M (a + 9) la wi en pe 0 lr fr gt lt tk lc db fc le nF fd fw nK nm kd nS sn nA ac nO oc) (k : jx_V md_L_law [] G R Q 1411 [some (.ref (jx_sa G)), some (.ref a), some (.ref (a + 9)), some (.ref (a + 23)), some (.int i), none, none, none] [] M sz kc ks) : jx_V md_L_law [] G R Q 696 [some (.ref (jx_sa G)), some (.ref a), some (.ref (a + 9)), some (.ref (a + 23)), some (.int i), some (.int 0), y6, y7] [] M sz kc ks := by
  obtain ⟨mk, ki, st, nu, fa, fl, nn, si, wo, ti, va, so, hmk, hB, -⟩ := id hN
  refine jx_aload_n (i := 2) d_L_law_696 rfl rfl ?_
  refine jx_callV0 d_L_law_697 mv_L_88 hB rfl hok (Nat.le_of_ble_eq_true rfl) hc1 hs1 (c_M_thrown (d := 0) hN ?_)
  dsimp only [Option.toList, List.cons_append, List.nil_append]
  refine jx_iload d_L_law_700 rfl ?_
  refine jx_icmp_eq (tgt := 707) d_L_law_702 (by decide) (fun c702 => ?_) (fun c702 => ?_)
  · refine jx_goto (tgt := 1411) d_L_law_707 (by decide) ?_
    refine jx_wk (l' := [some (.ref (jx_sa G)), some (.ref a), some (.ref (a + 9)), some (.ref (a + 23)), some (.int i), none, none, none]) (by simp [jx_le]) ?_
    exact k
  · exact absurd rfl c702
theorem tx_state {x : Int64} {kk : Int32} (hok : jx_ok R 0 1) (hc1 : kc ≤ R.cells) (hs1 : ks ≤ R.slots) (h0 : ¬ kk = 0) (hN : mW M (a + 9) la wi en pe kk lr fr gt lt tk lc db fc le nF fd fw nK nm kd nS sn nA ac nO oc) (k : jx_V md_L_law [] G R Q 1411 [some (.ref (jx_sa G)), some (.ref a), some (.ref (a + 9)), some (.ref (a + 23)), some (.int i), none, none, none] [] M sz kc ks) : jx_V md_L_law [] G R Q 779 [some (.ref (jx_sa G)), some (.ref a), some (.ref (a + 9)), some (.ref (a + 23)), some (.int i), some (.int kk), some (.long x), none] [] M sz kc ks := by
  obtain ⟨mk, ki, st, nu, fa, fl, nn, si, wo, ti, va, so, hmk, hB, -⟩ := id hN
  refine jx_aload_n (i := 2) d_L_law_779 rfl rfl ?_
  refine jx_callV0 d_L_law_780 mv_L_88 hB rfl hok (Nat.le_of_ble_eq_true rfl) hc1 hs1 (c_M_thrown (d := 0) hN ?_)
  dsimp only [Option.toList, List.cons_append, List.nil_append]
  refine jx_iload d_L_law_783 rfl ?_
  refine jx_icmp_eq (tgt := 790) d_L_law_785 (by decide) (fun c785 => ?_) (fun c785 => ?_)
  · refine jx_iload d_L_law_790 rfl ?_
    refine jx_if_ne (tgt := 806) d_L_law_792 (by decide) (fun c792 => ?_) (fun c792 => ?_)
    · refine jx_goto (tgt := 1411) d_L_law_806 (by decide) ?_
      refine jx_wk (l' := [some (.ref (jx_sa G)), some (.ref a), some (.ref (a + 9)), some (.ref (a + 23)), some (.int i), none, none, none]) (by simp [jx_le]) ?_
      exact k
    · exact absurd c792 h0
  · exact absurd rfl c785
theorem t0_state {x : Int64} {f : Nat → Int64} (hok : jx_ok R 0 1) (hc1 : kc ≤ R.cells) (hs1 : ks ≤ R.slots) (hN : mW M (a + 9) la wi en pe 0 lr fr gt lt tk lc db fc le nF fd fw nK nm kd nS sn nA ac nO oc) (hout : M (a + 23) = some (kf_la 1 (vp_updL f 0 x))) (k : jx_V md_L_law [] G R Q 1411 [some (.ref (jx_sa G)), some (.ref a), some (.ref (a + 9)), some (.ref (a + 23)), some (.int i), none, none, none] [] M sz kc ks) : jx_V md_L_law [] G R Q 779 [some (.ref (jx_sa G)), some (.ref a), some (.ref (a + 9)), some (.ref (a + 23)), some (.int i), some (.int 0), some (.long x), none] [] M sz kc ks := by
  obtain ⟨mk, ki, st, nu, fa, fl, nn, si, wo, ti, va, so, hmk, hB, -⟩ := id hN
  refine jx_aload_n (i := 2) d_L_law_779 rfl rfl ?_
  refine jx_callV0 d_L_law_780 mv_L_88 hB rfl hok (Nat.le_of_ble_eq_true rfl) hc1 hs1 (c_M_thrown (d := 0) hN ?_)
  dsimp only [Option.toList, List.cons_append, List.nil_append]
  refine jx_iload d_L_law_783 rfl ?_
  refine jx_icmp_eq (tgt := 790) d_L_law_785 (by decide) (fun c785 => ?_) (fun c785 => ?_)
  · refine jx_iload d_L_law_790 rfl ?_
    refine jx_if_ne (tgt := 806) d_L_law_792 (by decide) (fun c792 => ?_) (fun c792 => ?_)
    · exact absurd rfl c792
    · refine jx_aload_n (i := 3) d_L_law_795 rfl rfl ?_
      refine jx_iconst (v := 0) d_L_law_796 (by decide) ?_
      refine jx_laldj d_L_law_797 hout (show (0 : Int32) = nI 0 from rfl) (by omega) (by omega) ?_
      refine jx_lload d_L_law_798 rfl ?_
      refine jx_l_eq (tgt := 806) d_L_law_800 d_L_law_801 (by decide) (fun c800 => ?_) (fun c800 => ?_)
      · refine jx_goto (tgt := 1411) d_L_law_806 (by decide) ?_
        refine jx_wk (l' := [some (.ref (jx_sa G)), some (.ref a), some (.ref (a + 9)), some (.ref (a + 23)), some (.int i), none, none, none]) (by simp [jx_le]) ?_
        exact k
      · exact absurd (by rw [updL_s]) c800
  · exact absurd rfl c785
theorem tx_key {x : Int32} {y7 : Option Value} {kk : Int32} (hok : jx_ok R 0 1) (hc1 : kc ≤ R.cells) (hs1 : ks ≤ R.slots) (h0 : ¬ kk = 0) (hN : mW M (a + 9) la wi en pe kk lr fr gt lt tk lc db fc le nF fd fw nK nm kd nS sn nA ac nO oc) (k : jx_V md_L_law [] G R Q 1411 [some (.ref (jx_sa G)), some (.ref a), some (.ref (a + 9)), some (.ref (a + 23)), some (.int i), none, none, none] [] M sz kc ks) : jx_V md_L_law [] G R Q 878 [some (.ref (jx_sa G)), some (.ref a), some (.ref (a + 9)), some (.ref (a + 23)), some (.int i), some (.int kk), some (.int x), y7] [] M sz kc ks := by
  obtain ⟨mk, ki, st, nu, fa, fl, nn, si, wo, ti, va, so, hmk, hB, -⟩ := id hN
  refine jx_aload_n (i := 2) d_L_law_878 rfl rfl ?_
  refine jx_callV0 d_L_law_879 mv_L_88 hB rfl hok (Nat.le_of_ble_eq_true rfl) hc1 hs1 (c_M_thrown (d := 0) hN ?_)
  dsimp only [Option.toList, List.cons_append, List.nil_append]
  refine jx_iload d_L_law_882 rfl ?_
  refine jx_icmp_eq (tgt := 889) d_L_law_884 (by decide) (fun c884 => ?_) (fun c884 => ?_)
  · refine jx_iload d_L_law_889 rfl ?_
    refine jx_if_ne (tgt := 906) d_L_law_891 (by decide) (fun c891 => ?_) (fun c891 => ?_)
    · refine jx_goto (tgt := 1411) d_L_law_906 (by decide) ?_
      refine jx_wk (l' := [some (.ref (jx_sa G)), some (.ref a), some (.ref (a + 9)), some (.ref (a + 23)), some (.int i), none, none, none]) (by simp [jx_le]) ?_
      exact k
    · exact absurd c891 h0
  · exact absurd rfl c884
theorem t0_key {x : Int32} {y7 : Option Value} {f : Nat → Int64} (hok : jx_ok R 0 1) (hc1 : kc ≤ R.cells) (hs1 : ks ≤ R.slots) (hN : mW M (a + 9) la wi en pe 0 lr fr gt lt tk lc db fc le nF fd fw nK nm kd nS sn nA ac nO oc) (hout : M (a + 23) = some (kf_la 1 (vp_updL f 0 x.toInt64))) (k : jx_V md_L_law [] G R Q 1411 [some (.ref (jx_sa G)), some (.ref a), some (.ref (a + 9)), some (.ref (a + 23)), some (.int i), none, none, none] [] M sz kc ks) : jx_V md_L_law [] G R Q 878 [some (.ref (jx_sa G)), some (.ref a), some (.ref (a + 9)), some (.ref (a + 23)), some (.int i), some (.int 0), some (.int x), y7] [] M sz kc ks := by
  obtain ⟨mk, ki, st, nu, fa, fl, nn, si, wo, ti, va, so, hmk, hB, -⟩ := id hN
  refine jx_aload_n (i := 2) d_L_law_878 rfl rfl ?_
  refine jx_callV0 d_L_law_879 mv_L_88 hB rfl hok (Nat.le_of_ble_eq_true rfl) hc1 hs1 (c_M_thrown (d := 0) hN ?_)
  dsimp only [Option.toList, List.cons_append, List.nil_append]
  refine jx_iload d_L_law_882 rfl ?_
  refine jx_icmp_eq (tgt := 889) d_L_law_884 (by decide) (fun c884 => ?_) (fun c884 => ?_)
  · refine jx_iload d_L_law_889 rfl ?_
    refine jx_if_ne (tgt := 906) d_L_law_891 (by decide) (fun c891 => ?_) (fun c891 => ?_)
    · exact absurd rfl c891
    · refine jx_aload_n (i := 3) d_L_law_894 rfl rfl ?_
      refine jx_iconst (v := 0) d_L_law_895 (by decide) ?_
      refine jx_laldj d_L_law_896 hout (show (0 : Int32) = nI 0 from rfl) (by omega) (by omega) ?_
      refine jx_iload d_L_law_897 rfl ?_
      refine jx_i2l d_L_law_899 ?_
      refine jx_l_eq (tgt := 906) d_L_law_900 d_L_law_901 (by decide) (fun c900 => ?_) (fun c900 => ?_)
      · refine jx_goto (tgt := 1411) d_L_law_906 (by decide) ?_
        refine jx_wk (l' := [some (.ref (jx_sa G)), some (.ref a), some (.ref (a + 9)), some (.ref (a + 23)), some (.int i), none, none, none]) (by simp [jx_le]) ?_
        exact k
      · exact absurd (by rw [updL_s]) c900
  · exact absurd rfl c884
theorem tx_rowOf {x : Int64} {kk : Int32} (hok : jx_ok R 0 1) (hc1 : kc ≤ R.cells) (hs1 : ks ≤ R.slots) (h0 : ¬ kk = 0) (hN : mW M (a + 9) la wi en pe kk lr fr gt lt tk lc db fc le nF fd fw nK nm kd nS sn nA ac nO oc) (k : jx_V md_L_law [] G R Q 1411 [some (.ref (jx_sa G)), some (.ref a), some (.ref (a + 9)), some (.ref (a + 23)), some (.int i), none, none, none] [] M sz kc ks) : jx_V md_L_law [] G R Q 990 [some (.ref (jx_sa G)), some (.ref a), some (.ref (a + 9)), some (.ref (a + 23)), some (.int i), some (.int kk), some (.long x), none] [] M sz kc ks := by
  obtain ⟨mk, ki, st, nu, fa, fl, nn, si, wo, ti, va, so, hmk, hB, -⟩ := id hN
  refine jx_aload_n (i := 2) d_L_law_990 rfl rfl ?_
  refine jx_callV0 d_L_law_991 mv_L_88 hB rfl hok (Nat.le_of_ble_eq_true rfl) hc1 hs1 (c_M_thrown (d := 0) hN ?_)
  dsimp only [Option.toList, List.cons_append, List.nil_append]
  refine jx_iload d_L_law_994 rfl ?_
  refine jx_icmp_eq (tgt := 1001) d_L_law_996 (by decide) (fun c996 => ?_) (fun c996 => ?_)
  · refine jx_iload d_L_law_1001 rfl ?_
    refine jx_if_ne (tgt := 1017) d_L_law_1003 (by decide) (fun c1003 => ?_) (fun c1003 => ?_)
    · refine jx_goto (tgt := 1411) d_L_law_1017 (by decide) ?_
      refine jx_wk (l' := [some (.ref (jx_sa G)), some (.ref a), some (.ref (a + 9)), some (.ref (a + 23)), some (.int i), none, none, none]) (by simp [jx_le]) ?_
      exact k
    · exact absurd c1003 h0
  · exact absurd rfl c996
theorem t0_rowOf {x : Int64} {f : Nat → Int64} (hok : jx_ok R 0 1) (hc1 : kc ≤ R.cells) (hs1 : ks ≤ R.slots) (hN : mW M (a + 9) la wi en pe 0 lr fr gt lt tk lc db fc le nF fd fw nK nm kd nS sn nA ac nO oc) (hout : M (a + 23) = some (kf_la 1 (vp_updL f 0 x))) (k : jx_V md_L_law [] G R Q 1411 [some (.ref (jx_sa G)), some (.ref a), some (.ref (a + 9)), some (.ref (a + 23)), some (.int i), none, none, none] [] M sz kc ks) : jx_V md_L_law [] G R Q 990 [some (.ref (jx_sa G)), some (.ref a), some (.ref (a + 9)), some (.ref (a + 23)), some (.int i), some (.int 0), some (.long x), none] [] M sz kc ks := by
  obtain ⟨mk, ki, st, nu, fa, fl, nn, si, wo, ti, va, so, hmk, hB, -⟩ := id hN
  refine jx_aload_n (i := 2) d_L_law_990 rfl rfl ?_
  refine jx_callV0 d_L_law_991 mv_L_88 hB rfl hok (Nat.le_of_ble_eq_true rfl) hc1 hs1 (c_M_thrown (d := 0) hN ?_)
  dsimp only [Option.toList, List.cons_append, List.nil_append]
  refine jx_iload d_L_law_994 rfl ?_
  refine jx_icmp_eq (tgt := 1001) d_L_law_996 (by decide) (fun c996 => ?_) (fun c996 => ?_)
  · refine jx_iload d_L_law_1001 rfl ?_
    refine jx_if_ne (tgt := 1017) d_L_law_1003 (by decide) (fun c1003 => ?_) (fun c1003 => ?_)
    · exact absurd rfl c1003
    · refine jx_aload_n (i := 3) d_L_law_1006 rfl rfl ?_
      refine jx_iconst (v := 0) d_L_law_1007 (by decide) ?_
      refine jx_laldj d_L_law_1008 hout (show (0 : Int32) = nI 0 from rfl) (by omega) (by omega) ?_
      refine jx_lload d_L_law_1009 rfl ?_
      refine jx_l_eq (tgt := 1017) d_L_law_1011 d_L_law_1012 (by decide) (fun c1011 => ?_) (fun c1011 => ?_)
      · refine jx_goto (tgt := 1411) d_L_law_1017 (by decide) ?_
        refine jx_wk (l' := [some (.ref (jx_sa G)), some (.ref a), some (.ref (a + 9)), some (.ref (a + 23)), some (.int i), none, none, none]) (by simp [jx_le]) ?_
        exact k
      · exact absurd (by rw [updL_s]) c1011
  · exact absurd rfl c996
theorem tx_aside {x : Int64} {kk : Int32} (hok : jx_ok R 0 1) (hc1 : kc ≤ R.cells) (hs1 : ks ≤ R.slots) (h0 : ¬ kk = 0) (hN : mW M (a + 9) la wi en pe kk lr fr gt lt tk lc db fc le nF fd fw nK nm kd nS sn nA ac nO oc) (k : jx_V md_L_law [] G R Q 1411 [some (.ref (jx_sa G)), some (.ref a), some (.ref (a + 9)), some (.ref (a + 23)), some (.int i), none, none, none] [] M sz kc ks) : jx_V md_L_law [] G R Q 1057 [some (.ref (jx_sa G)), some (.ref a), some (.ref (a + 9)), some (.ref (a + 23)), some (.int i), some (.int kk), some (.long x), none] [] M sz kc ks := by
  obtain ⟨mk, ki, st, nu, fa, fl, nn, si, wo, ti, va, so, hmk, hB, -⟩ := id hN
  refine jx_aload_n (i := 2) d_L_law_1057 rfl rfl ?_
  refine jx_callV0 d_L_law_1058 mv_L_88 hB rfl hok (Nat.le_of_ble_eq_true rfl) hc1 hs1 (c_M_thrown (d := 0) hN ?_)
  dsimp only [Option.toList, List.cons_append, List.nil_append]
  refine jx_iload d_L_law_1061 rfl ?_
  refine jx_icmp_eq (tgt := 1068) d_L_law_1063 (by decide) (fun c1063 => ?_) (fun c1063 => ?_)
  · refine jx_iload d_L_law_1068 rfl ?_
    refine jx_if_ne (tgt := 1084) d_L_law_1070 (by decide) (fun c1070 => ?_) (fun c1070 => ?_)
    · refine jx_goto (tgt := 1411) d_L_law_1084 (by decide) ?_
      refine jx_wk (l' := [some (.ref (jx_sa G)), some (.ref a), some (.ref (a + 9)), some (.ref (a + 23)), some (.int i), none, none, none]) (by simp [jx_le]) ?_
      exact k
    · exact absurd c1070 h0
  · exact absurd rfl c1063
theorem t0_aside {x : Int64} {f : Nat → Int64} (hok : jx_ok R 0 1) (hc1 : kc ≤ R.cells) (hs1 : ks ≤ R.slots) (hN : mW M (a + 9) la wi en pe 0 lr fr gt lt tk lc db fc le nF fd fw nK nm kd nS sn nA ac nO oc) (hout : M (a + 23) = some (kf_la 1 (vp_updL f 0 x))) (k : jx_V md_L_law [] G R Q 1411 [some (.ref (jx_sa G)), some (.ref a), some (.ref (a + 9)), some (.ref (a + 23)), some (.int i), none, none, none] [] M sz kc ks) : jx_V md_L_law [] G R Q 1057 [some (.ref (jx_sa G)), some (.ref a), some (.ref (a + 9)), some (.ref (a + 23)), some (.int i), some (.int 0), some (.long x), none] [] M sz kc ks := by
  obtain ⟨mk, ki, st, nu, fa, fl, nn, si, wo, ti, va, so, hmk, hB, -⟩ := id hN
  refine jx_aload_n (i := 2) d_L_law_1057 rfl rfl ?_
  refine jx_callV0 d_L_law_1058 mv_L_88 hB rfl hok (Nat.le_of_ble_eq_true rfl) hc1 hs1 (c_M_thrown (d := 0) hN ?_)
  dsimp only [Option.toList, List.cons_append, List.nil_append]
  refine jx_iload d_L_law_1061 rfl ?_
  refine jx_icmp_eq (tgt := 1068) d_L_law_1063 (by decide) (fun c1063 => ?_) (fun c1063 => ?_)
  · refine jx_iload d_L_law_1068 rfl ?_
    refine jx_if_ne (tgt := 1084) d_L_law_1070 (by decide) (fun c1070 => ?_) (fun c1070 => ?_)
    · exact absurd rfl c1070
    · refine jx_aload_n (i := 3) d_L_law_1073 rfl rfl ?_
      refine jx_iconst (v := 0) d_L_law_1074 (by decide) ?_
      refine jx_laldj d_L_law_1075 hout (show (0 : Int32) = nI 0 from rfl) (by omega) (by omega) ?_
      refine jx_lload d_L_law_1076 rfl ?_
      refine jx_l_eq (tgt := 1084) d_L_law_1078 d_L_law_1079 (by decide) (fun c1078 => ?_) (fun c1078 => ?_)
      · refine jx_goto (tgt := 1411) d_L_law_1084 (by decide) ?_
        refine jx_wk (l' := [some (.ref (jx_sa G)), some (.ref a), some (.ref (a + 9)), some (.ref (a + 23)), some (.int i), none, none, none]) (by simp [jx_le]) ?_
        exact k
      · exact absurd (by rw [updL_s]) c1078
  · exact absurd rfl c1063
theorem tx_output {x : Int64} {kk : Int32} (hok : jx_ok R 0 1) (hc1 : kc ≤ R.cells) (hs1 : ks ≤ R.slots) (h0 : ¬ kk = 0) (hN : mW M (a + 9) la wi en pe kk lr fr gt lt tk lc db fc le nF fd fw nK nm kd nS sn nA ac nO oc) (k : jx_V md_L_law [] G R Q 1411 [some (.ref (jx_sa G)), some (.ref a), some (.ref (a + 9)), some (.ref (a + 23)), some (.int i), none, none, none] [] M sz kc ks) : jx_V md_L_law [] G R Q 1124 [some (.ref (jx_sa G)), some (.ref a), some (.ref (a + 9)), some (.ref (a + 23)), some (.int i), some (.int kk), some (.long x), none] [] M sz kc ks := by
  obtain ⟨mk, ki, st, nu, fa, fl, nn, si, wo, ti, va, so, hmk, hB, -⟩ := id hN
  refine jx_aload_n (i := 2) d_L_law_1124 rfl rfl ?_
  refine jx_callV0 d_L_law_1125 mv_L_88 hB rfl hok (Nat.le_of_ble_eq_true rfl) hc1 hs1 (c_M_thrown (d := 0) hN ?_)
  dsimp only [Option.toList, List.cons_append, List.nil_append]
  refine jx_iload d_L_law_1128 rfl ?_
  refine jx_icmp_eq (tgt := 1135) d_L_law_1130 (by decide) (fun c1130 => ?_) (fun c1130 => ?_)
  · refine jx_iload d_L_law_1135 rfl ?_
    refine jx_if_ne (tgt := 1151) d_L_law_1137 (by decide) (fun c1137 => ?_) (fun c1137 => ?_)
    · refine jx_goto (tgt := 1411) d_L_law_1151 (by decide) ?_
      refine jx_wk (l' := [some (.ref (jx_sa G)), some (.ref a), some (.ref (a + 9)), some (.ref (a + 23)), some (.int i), none, none, none]) (by simp [jx_le]) ?_
      exact k
    · exact absurd c1137 h0
  · exact absurd rfl c1130
theorem t0_output {x : Int64} {f : Nat → Int64} (hok : jx_ok R 0 1) (hc1 : kc ≤ R.cells) (hs1 : ks ≤ R.slots) (hN : mW M (a + 9) la wi en pe 0 lr fr gt lt tk lc db fc le nF fd fw nK nm kd nS sn nA ac nO oc) (hout : M (a + 23) = some (kf_la 1 (vp_updL f 0 x))) (k : jx_V md_L_law [] G R Q 1411 [some (.ref (jx_sa G)), some (.ref a), some (.ref (a + 9)), some (.ref (a + 23)), some (.int i), none, none, none] [] M sz kc ks) : jx_V md_L_law [] G R Q 1124 [some (.ref (jx_sa G)), some (.ref a), some (.ref (a + 9)), some (.ref (a + 23)), some (.int i), some (.int 0), some (.long x), none] [] M sz kc ks := by
  obtain ⟨mk, ki, st, nu, fa, fl, nn, si, wo, ti, va, so, hmk, hB, -⟩ := id hN
  refine jx_aload_n (i := 2) d_L_law_1124 rfl rfl ?_
  refine jx_callV0 d_L_law_1125 mv_L_88 hB rfl hok (Nat.le_of_ble_eq_true rfl) hc1 hs1 (c_M_thrown (d := 0) hN ?_)
  dsimp only [Option.toList, List.cons_append, List.nil_append]
  refine jx_iload d_L_law_1128 rfl ?_
  refine jx_icmp_eq (tgt := 1135) d_L_law_1130 (by decide) (fun c1130 => ?_) (fun c1130 => ?_)
  · refine jx_iload d_L_law_1135 rfl ?_
    refine jx_if_ne (tgt := 1151) d_L_law_1137 (by decide) (fun c1137 => ?_) (fun c1137 => ?_)
    · exact absurd rfl c1137
    · refine jx_aload_n (i := 3) d_L_law_1140 rfl rfl ?_
      refine jx_iconst (v := 0) d_L_law_1141 (by decide) ?_
      refine jx_laldj d_L_law_1142 hout (show (0 : Int32) = nI 0 from rfl) (by omega) (by omega) ?_
      refine jx_lload d_L_law_1143 rfl ?_
      refine jx_l_eq (tgt := 1151) d_L_law_1145 d_L_law_1146 (by decide) (fun c1145 => ?_) (fun c1145 => ?_)
      · refine jx_goto (tgt := 1411) d_L_law_1151 (by decide) ?_
        refine jx_wk (l' := [some (.ref (jx_sa G)), some (.ref a), some (.ref (a + 9)), some (.ref (a + 23)), some (.int i), none, none, none]) (by simp [jx_le]) ?_
        exact k
      · exact absurd (by rw [updL_s]) c1145
  · exact absurd rfl c1130
theorem tx_watermark {x : Int64} {kk : Int32} (hok : jx_ok R 0 1) (hc1 : kc ≤ R.cells) (hs1 : ks ≤ R.slots) (h0 : ¬ kk = 0) (hN : mW M (a + 9) la wi en pe kk lr fr gt lt tk lc db fc le nF fd fw nK nm kd nS sn nA ac nO oc) (k : jx_V md_L_law [] G R Q 1411 [some (.ref (jx_sa G)), some (.ref a), some (.ref (a + 9)), some (.ref (a + 23)), some (.int i), none, none, none] [] M sz kc ks) : jx_V md_L_law [] G R Q 1167 [some (.ref (jx_sa G)), some (.ref a), some (.ref (a + 9)), some (.ref (a + 23)), some (.int i), some (.int kk), some (.long x), none] [] M sz kc ks := by
  obtain ⟨mk, ki, st, nu, fa, fl, nn, si, wo, ti, va, so, hmk, hB, -⟩ := id hN
  refine jx_aload_n (i := 2) d_L_law_1167 rfl rfl ?_
  refine jx_callV0 d_L_law_1168 mv_L_88 hB rfl hok (Nat.le_of_ble_eq_true rfl) hc1 hs1 (c_M_thrown (d := 0) hN ?_)
  dsimp only [Option.toList, List.cons_append, List.nil_append]
  refine jx_iload d_L_law_1171 rfl ?_
  refine jx_icmp_eq (tgt := 1178) d_L_law_1173 (by decide) (fun c1173 => ?_) (fun c1173 => ?_)
  · refine jx_iload d_L_law_1178 rfl ?_
    refine jx_if_ne (tgt := 1194) d_L_law_1180 (by decide) (fun c1180 => ?_) (fun c1180 => ?_)
    · refine jx_goto (tgt := 1411) d_L_law_1194 (by decide) ?_
      refine jx_wk (l' := [some (.ref (jx_sa G)), some (.ref a), some (.ref (a + 9)), some (.ref (a + 23)), some (.int i), none, none, none]) (by simp [jx_le]) ?_
      exact k
    · exact absurd c1180 h0
  · exact absurd rfl c1173
theorem t0_watermark {x : Int64} {f : Nat → Int64} (hok : jx_ok R 0 1) (hc1 : kc ≤ R.cells) (hs1 : ks ≤ R.slots) (hN : mW M (a + 9) la wi en pe 0 lr fr gt lt tk lc db fc le nF fd fw nK nm kd nS sn nA ac nO oc) (hout : M (a + 23) = some (kf_la 1 (vp_updL f 0 x))) (k : jx_V md_L_law [] G R Q 1411 [some (.ref (jx_sa G)), some (.ref a), some (.ref (a + 9)), some (.ref (a + 23)), some (.int i), none, none, none] [] M sz kc ks) : jx_V md_L_law [] G R Q 1167 [some (.ref (jx_sa G)), some (.ref a), some (.ref (a + 9)), some (.ref (a + 23)), some (.int i), some (.int 0), some (.long x), none] [] M sz kc ks := by
  obtain ⟨mk, ki, st, nu, fa, fl, nn, si, wo, ti, va, so, hmk, hB, -⟩ := id hN
  refine jx_aload_n (i := 2) d_L_law_1167 rfl rfl ?_
  refine jx_callV0 d_L_law_1168 mv_L_88 hB rfl hok (Nat.le_of_ble_eq_true rfl) hc1 hs1 (c_M_thrown (d := 0) hN ?_)
  dsimp only [Option.toList, List.cons_append, List.nil_append]
  refine jx_iload d_L_law_1171 rfl ?_
  refine jx_icmp_eq (tgt := 1178) d_L_law_1173 (by decide) (fun c1173 => ?_) (fun c1173 => ?_)
  · refine jx_iload d_L_law_1178 rfl ?_
    refine jx_if_ne (tgt := 1194) d_L_law_1180 (by decide) (fun c1180 => ?_) (fun c1180 => ?_)
    · exact absurd rfl c1180
    · refine jx_aload_n (i := 3) d_L_law_1183 rfl rfl ?_
      refine jx_iconst (v := 0) d_L_law_1184 (by decide) ?_
      refine jx_laldj d_L_law_1185 hout (show (0 : Int32) = nI 0 from rfl) (by omega) (by omega) ?_
      refine jx_lload d_L_law_1186 rfl ?_
      refine jx_l_eq (tgt := 1194) d_L_law_1188 d_L_law_1189 (by decide) (fun c1188 => ?_) (fun c1188 => ?_)
      · refine jx_goto (tgt := 1411) d_L_law_1194 (by decide) ?_
        refine jx_wk (l' := [some (.ref (jx_sa G)), some (.ref a), some (.ref (a + 9)), some (.ref (a + 23)), some (.int i), none, none, none]) (by simp [jx_le]) ?_
        exact k
      · exact absurd (by rw [updL_s]) c1188
  · exact absurd rfl c1173
theorem tx_told {x : Int32} {y7 : Option Value} {kk : Int32} (hok : jx_ok R 0 1) (hc1 : kc ≤ R.cells) (hs1 : ks ≤ R.slots) (h0 : ¬ kk = 0) (hN : mW M (a + 9) la wi en pe kk lr fr gt lt tk lc db fc le nF fd fw nK nm kd nS sn nA ac nO oc) (k : jx_V md_L_law [] G R Q 1411 [some (.ref (jx_sa G)), some (.ref a), some (.ref (a + 9)), some (.ref (a + 23)), some (.int i), none, none, none] [] M sz kc ks) : jx_V md_L_law [] G R Q 1222 [some (.ref (jx_sa G)), some (.ref a), some (.ref (a + 9)), some (.ref (a + 23)), some (.int i), some (.int kk), some (.int x), y7] [] M sz kc ks := by
  obtain ⟨mk, ki, st, nu, fa, fl, nn, si, wo, ti, va, so, hmk, hB, -⟩ := id hN
  refine jx_aload_n (i := 2) d_L_law_1222 rfl rfl ?_
  refine jx_callV0 d_L_law_1223 mv_L_88 hB rfl hok (Nat.le_of_ble_eq_true rfl) hc1 hs1 (c_M_thrown (d := 0) hN ?_)
  dsimp only [Option.toList, List.cons_append, List.nil_append]
  refine jx_iload d_L_law_1226 rfl ?_
  refine jx_icmp_eq (tgt := 1233) d_L_law_1228 (by decide) (fun c1228 => ?_) (fun c1228 => ?_)
  · refine jx_iload d_L_law_1233 rfl ?_
    refine jx_if_ne (tgt := 1250) d_L_law_1235 (by decide) (fun c1235 => ?_) (fun c1235 => ?_)
    · refine jx_goto (tgt := 1411) d_L_law_1250 (by decide) ?_
      refine jx_wk (l' := [some (.ref (jx_sa G)), some (.ref a), some (.ref (a + 9)), some (.ref (a + 23)), some (.int i), none, none, none]) (by simp [jx_le]) ?_
      exact k
    · exact absurd c1235 h0
  · exact absurd rfl c1228
theorem t0_told {x : Int32} {y7 : Option Value} {f : Nat → Int64} (hok : jx_ok R 0 1) (hc1 : kc ≤ R.cells) (hs1 : ks ≤ R.slots) (hN : mW M (a + 9) la wi en pe 0 lr fr gt lt tk lc db fc le nF fd fw nK nm kd nS sn nA ac nO oc) (hout : M (a + 23) = some (kf_la 1 (vp_updL f 0 x.toInt64))) (k : jx_V md_L_law [] G R Q 1411 [some (.ref (jx_sa G)), some (.ref a), some (.ref (a + 9)), some (.ref (a + 23)), some (.int i), none, none, none] [] M sz kc ks) : jx_V md_L_law [] G R Q 1222 [some (.ref (jx_sa G)), some (.ref a), some (.ref (a + 9)), some (.ref (a + 23)), some (.int i), some (.int 0), some (.int x), y7] [] M sz kc ks := by
  obtain ⟨mk, ki, st, nu, fa, fl, nn, si, wo, ti, va, so, hmk, hB, -⟩ := id hN
  refine jx_aload_n (i := 2) d_L_law_1222 rfl rfl ?_
  refine jx_callV0 d_L_law_1223 mv_L_88 hB rfl hok (Nat.le_of_ble_eq_true rfl) hc1 hs1 (c_M_thrown (d := 0) hN ?_)
  dsimp only [Option.toList, List.cons_append, List.nil_append]
  refine jx_iload d_L_law_1226 rfl ?_
  refine jx_icmp_eq (tgt := 1233) d_L_law_1228 (by decide) (fun c1228 => ?_) (fun c1228 => ?_)
  · refine jx_iload d_L_law_1233 rfl ?_
    refine jx_if_ne (tgt := 1250) d_L_law_1235 (by decide) (fun c1235 => ?_) (fun c1235 => ?_)
    · exact absurd rfl c1235
    · refine jx_aload_n (i := 3) d_L_law_1238 rfl rfl ?_
      refine jx_iconst (v := 0) d_L_law_1239 (by decide) ?_
      refine jx_laldj d_L_law_1240 hout (show (0 : Int32) = nI 0 from rfl) (by omega) (by omega) ?_
      refine jx_iload d_L_law_1241 rfl ?_
      refine jx_i2l d_L_law_1243 ?_
      refine jx_l_eq (tgt := 1250) d_L_law_1244 d_L_law_1245 (by decide) (fun c1244 => ?_) (fun c1244 => ?_)
      · refine jx_goto (tgt := 1411) d_L_law_1250 (by decide) ?_
        refine jx_wk (l' := [some (.ref (jx_sa G)), some (.ref a), some (.ref (a + 9)), some (.ref (a + 23)), some (.int i), none, none, none]) (by simp [jx_le]) ?_
        exact k
      · exact absurd (by rw [updL_s]) c1244
  · exact absurd rfl c1228
theorem tx_folded {x : Int32} {y7 : Option Value} {kk : Int32} (hok : jx_ok R 0 1) (hc1 : kc ≤ R.cells) (hs1 : ks ≤ R.slots) (h0 : ¬ kk = 0) (hN : mW M (a + 9) la wi en pe kk lr fr gt lt tk lc db fc le nF fd fw nK nm kd nS sn nA ac nO oc) (k : jx_V md_L_law [] G R Q 1411 [some (.ref (jx_sa G)), some (.ref a), some (.ref (a + 9)), some (.ref (a + 23)), some (.int i), none, none, none] [] M sz kc ks) : jx_V md_L_law [] G R Q 1310 [some (.ref (jx_sa G)), some (.ref a), some (.ref (a + 9)), some (.ref (a + 23)), some (.int i), some (.int kk), some (.int x), y7] [] M sz kc ks := by
  obtain ⟨mk, ki, st, nu, fa, fl, nn, si, wo, ti, va, so, hmk, hB, -⟩ := id hN
  refine jx_aload_n (i := 2) d_L_law_1310 rfl rfl ?_
  refine jx_callV0 d_L_law_1311 mv_L_88 hB rfl hok (Nat.le_of_ble_eq_true rfl) hc1 hs1 (c_M_thrown (d := 0) hN ?_)
  dsimp only [Option.toList, List.cons_append, List.nil_append]
  refine jx_iload d_L_law_1314 rfl ?_
  refine jx_icmp_eq (tgt := 1321) d_L_law_1316 (by decide) (fun c1316 => ?_) (fun c1316 => ?_)
  · refine jx_iload d_L_law_1321 rfl ?_
    refine jx_if_ne (tgt := 1345) d_L_law_1323 (by decide) (fun c1323 => ?_) (fun c1323 => ?_)
    · refine jx_goto (tgt := 1411) d_L_law_1345 (by decide) ?_
      refine jx_wk (l' := [some (.ref (jx_sa G)), some (.ref a), some (.ref (a + 9)), some (.ref (a + 23)), some (.int i), none, none, none]) (by simp [jx_le]) ?_
      exact k
    · exact absurd c1323 h0
  · exact absurd rfl c1316
theorem t0_folded {x : Int32} {y7 : Option Value} {f : Nat → Int64} (hok : jx_ok R 0 1) (hc1 : kc ≤ R.cells) (hs1 : ks ≤ R.slots) (hN : mW M (a + 9) la wi en pe 0 lr fr gt lt tk lc db fc le nF fd fw nK nm kd nS sn nA ac nO oc) (hout : M (a + 23) = some (kf_la 1 (vp_updL f 0 (if x = 0 then 0 else 1)))) (k : jx_V md_L_law [] G R Q 1411 [some (.ref (jx_sa G)), some (.ref a), some (.ref (a + 9)), some (.ref (a + 23)), some (.int i), none, none, none] [] M sz kc ks) : jx_V md_L_law [] G R Q 1310 [some (.ref (jx_sa G)), some (.ref a), some (.ref (a + 9)), some (.ref (a + 23)), some (.int i), some (.int 0), some (.int x), y7] [] M sz kc ks := by
  obtain ⟨mk, ki, st, nu, fa, fl, nn, si, wo, ti, va, so, hmk, hB, -⟩ := id hN
  refine jx_aload_n (i := 2) d_L_law_1310 rfl rfl ?_
  refine jx_callV0 d_L_law_1311 mv_L_88 hB rfl hok (Nat.le_of_ble_eq_true rfl) hc1 hs1 (c_M_thrown (d := 0) hN ?_)
  dsimp only [Option.toList, List.cons_append, List.nil_append]
  refine jx_iload d_L_law_1314 rfl ?_
  refine jx_icmp_eq (tgt := 1321) d_L_law_1316 (by decide) (fun c1316 => ?_) (fun c1316 => ?_)
  · refine jx_iload d_L_law_1321 rfl ?_
    refine jx_if_ne (tgt := 1345) d_L_law_1323 (by decide) (fun c1323 => ?_) (fun c1323 => ?_)
    · exact absurd rfl c1323
    · refine jx_aload_n (i := 3) d_L_law_1326 rfl rfl ?_
      refine jx_iconst (v := 0) d_L_law_1327 (by decide) ?_
      refine jx_laldj d_L_law_1328 hout (show (0 : Int32) = nI 0 from rfl) (by omega) (by omega) ?_
      refine jx_iload d_L_law_1329 rfl ?_
      refine jx_if_eq (tgt := 1338) d_L_law_1331 (by decide) (fun c1331 => ?_) (fun c1331 => ?_)
      · refine jx_lconst (v := 0) d_L_law_1338 (by decide) ?_
        refine jx_l_eq (tgt := 1345) d_L_law_1339 d_L_law_1340 (by decide) (fun c1339 => ?_) (fun c1339 => ?_)
        · refine jx_goto (tgt := 1411) d_L_law_1345 (by decide) ?_
          refine jx_wk (l' := [some (.ref (jx_sa G)), some (.ref a), some (.ref (a + 9)), some (.ref (a + 23)), some (.int i), none, none, none]) (by simp [jx_le]) ?_
          exact k
        · exact absurd (by rw [updL_s, if_pos c1331]) c1339
      · refine jx_lconst (v := 1) d_L_law_1334 (by decide) ?_
        refine jx_goto (tgt := 1339) d_L_law_1335 (by decide) ?_
        refine jx_l_eq (tgt := 1345) d_L_law_1339 d_L_law_1340 (by decide) (fun c1339 => ?_) (fun c1339 => ?_)
        · refine jx_goto (tgt := 1411) d_L_law_1345 (by decide) ?_
          refine jx_wk (l' := [some (.ref (jx_sa G)), some (.ref a), some (.ref (a + 9)), some (.ref (a + 23)), some (.int i), none, none, none]) (by simp [jx_le]) ?_
          exact k
        · exact absurd (by rw [updL_s, if_neg c1331]) c1339
  · exact absurd rfl c1316
theorem tx_joined {x : Int32} {y7 : Option Value} {kk : Int32} (hok : jx_ok R 0 1) (hc1 : kc ≤ R.cells) (hs1 : ks ≤ R.slots) (h0 : ¬ kk = 0) (hN : mW M (a + 9) la wi en pe kk lr fr gt lt tk lc db fc le nF fd fw nK nm kd nS sn nA ac nO oc) (k : jx_V md_L_law [] G R Q 1411 [some (.ref (jx_sa G)), some (.ref a), some (.ref (a + 9)), some (.ref (a + 23)), some (.int i), none, none, none] [] M sz kc ks) : jx_V md_L_law [] G R Q 1373 [some (.ref (jx_sa G)), some (.ref a), some (.ref (a + 9)), some (.ref (a + 23)), some (.int i), some (.int kk), some (.int x), y7] [] M sz kc ks := by
  obtain ⟨mk, ki, st, nu, fa, fl, nn, si, wo, ti, va, so, hmk, hB, -⟩ := id hN
  refine jx_aload_n (i := 2) d_L_law_1373 rfl rfl ?_
  refine jx_callV0 d_L_law_1374 mv_L_88 hB rfl hok (Nat.le_of_ble_eq_true rfl) hc1 hs1 (c_M_thrown (d := 0) hN ?_)
  dsimp only [Option.toList, List.cons_append, List.nil_append]
  refine jx_iload d_L_law_1377 rfl ?_
  refine jx_icmp_eq (tgt := 1384) d_L_law_1379 (by decide) (fun c1379 => ?_) (fun c1379 => ?_)
  · refine jx_iload d_L_law_1384 rfl ?_
    refine jx_if_ne (tgt := 1408) d_L_law_1386 (by decide) (fun c1386 => ?_) (fun c1386 => ?_)
    · refine jx_goto (tgt := 1411) d_L_law_1408 (by decide) ?_
      refine jx_wk (l' := [some (.ref (jx_sa G)), some (.ref a), some (.ref (a + 9)), some (.ref (a + 23)), some (.int i), none, none, none]) (by simp [jx_le]) ?_
      exact k
    · exact absurd c1386 h0
  · exact absurd rfl c1379
theorem t0_joined {x : Int32} {y7 : Option Value} {f : Nat → Int64} (hok : jx_ok R 0 1) (hc1 : kc ≤ R.cells) (hs1 : ks ≤ R.slots) (hN : mW M (a + 9) la wi en pe 0 lr fr gt lt tk lc db fc le nF fd fw nK nm kd nS sn nA ac nO oc) (hout : M (a + 23) = some (kf_la 1 (vp_updL f 0 (if x = 0 then 0 else 1)))) (k : jx_V md_L_law [] G R Q 1411 [some (.ref (jx_sa G)), some (.ref a), some (.ref (a + 9)), some (.ref (a + 23)), some (.int i), none, none, none] [] M sz kc ks) : jx_V md_L_law [] G R Q 1373 [some (.ref (jx_sa G)), some (.ref a), some (.ref (a + 9)), some (.ref (a + 23)), some (.int i), some (.int 0), some (.int x), y7] [] M sz kc ks := by
  obtain ⟨mk, ki, st, nu, fa, fl, nn, si, wo, ti, va, so, hmk, hB, -⟩ := id hN
  refine jx_aload_n (i := 2) d_L_law_1373 rfl rfl ?_
  refine jx_callV0 d_L_law_1374 mv_L_88 hB rfl hok (Nat.le_of_ble_eq_true rfl) hc1 hs1 (c_M_thrown (d := 0) hN ?_)
  dsimp only [Option.toList, List.cons_append, List.nil_append]
  refine jx_iload d_L_law_1377 rfl ?_
  refine jx_icmp_eq (tgt := 1384) d_L_law_1379 (by decide) (fun c1379 => ?_) (fun c1379 => ?_)
  · refine jx_iload d_L_law_1384 rfl ?_
    refine jx_if_ne (tgt := 1408) d_L_law_1386 (by decide) (fun c1386 => ?_) (fun c1386 => ?_)
    · exact absurd rfl c1386
    · refine jx_aload_n (i := 3) d_L_law_1389 rfl rfl ?_
      refine jx_iconst (v := 0) d_L_law_1390 (by decide) ?_
      refine jx_laldj d_L_law_1391 hout (show (0 : Int32) = nI 0 from rfl) (by omega) (by omega) ?_
      refine jx_iload d_L_law_1392 rfl ?_
      refine jx_if_eq (tgt := 1401) d_L_law_1394 (by decide) (fun c1394 => ?_) (fun c1394 => ?_)
      · refine jx_lconst (v := 0) d_L_law_1401 (by decide) ?_
        refine jx_l_eq (tgt := 1408) d_L_law_1402 d_L_law_1403 (by decide) (fun c1402 => ?_) (fun c1402 => ?_)
        · refine jx_goto (tgt := 1411) d_L_law_1408 (by decide) ?_
          refine jx_wk (l' := [some (.ref (jx_sa G)), some (.ref a), some (.ref (a + 9)), some (.ref (a + 23)), some (.int i), none, none, none]) (by simp [jx_le]) ?_
          exact k
        · exact absurd (by rw [updL_s, if_pos c1394]) c1402
      · refine jx_lconst (v := 1) d_L_law_1397 (by decide) ?_
        refine jx_goto (tgt := 1402) d_L_law_1398 (by decide) ?_
        refine jx_l_eq (tgt := 1408) d_L_law_1402 d_L_law_1403 (by decide) (fun c1402 => ?_) (fun c1402 => ?_)
        · refine jx_goto (tgt := 1411) d_L_law_1408 (by decide) ?_
          refine jx_wk (l' := [some (.ref (jx_sa G)), some (.ref a), some (.ref (a + 9)), some (.ref (a + 23)), some (.int i), none, none, none]) (by simp [jx_le]) ?_
          exact k
        · exact absurd (by rw [updL_s, if_neg c1394]) c1402
  · exact absurd rfl c1379
end TLS
