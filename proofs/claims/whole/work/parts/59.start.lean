/-! PART 59: the law from its entry: the two objects, the cell of answers -/
theorem sp_cl_nI (x : Int32) : ∃ n : Nat, sp_cl x = nI n ∧ n ≤ 100000 := by
  unfold sp_cl
  split
  · exact ⟨0, rfl, by omega⟩
  · split
    · exact ⟨100000, by decide, by omega⟩
    · rename_i h1 h2
      obtain ⟨j, hj, rfl⟩ := nI_of h1
      refine ⟨j, rfl, ?_⟩
      have h3 : ¬ (100000 : Int32).toInt < (nI j).toInt := fun h => h2 (Int32.lt_iff_toInt_lt.mpr h)
      rw [nI_toInt (by omega), show (100000 : Int32).toInt = 100000 by decide] at h3
      omega
theorem JI.zero {G : jx_G} {M : jx_H} {a A P : Nat} {la wi en pe : Int32} (f0 : M a = some (kf_K la wi en pe (a + 1) (a + 2) (a + 3) (a + 5) (a + 7) 0 0 (-1) 0 0 0 0 0 0)) (f1 : M (a + 1) = some (kf_A 0 (jx_ea G) 0)) (f2 : M (a + 2) = some (kf_A 0 (jx_ea G) 0)) (f3 : M (a + 3) = some (kf_S (a + 4) 0)) (f4 : M (a + 4) = some (kf_la 512 (fun _ => 0))) (f5 : M (a + 5) = some (kf_T 0 100 4 (a + 6))) (f6 : M (a + 6) = some (kf_la 400 (fun _ => 0))) (f7 : M (a + 7) = some (kf_T 0 300 8 (a + 8))) (f8 : M (a + 8) = some (kf_la 2400 (fun _ => 0)))
    (g0 : M (a + 9) = some (kf_M la wi en pe 0 0 (a + 9) 0 0 0 0 0 0 0 0 0 0 0 0 0 0)) (gO : mO M (a + 9) (fun _ => 0) (fun _ => 0) (fun _ => 0) (fun _ => 0) (fun _ => 0) (fun _ => 0) (fun _ => 0) (fun _ => 0) (fun _ => 0) (fun _ => 0) (fun _ => 0) (fun _ => 0) (fun _ => 0)) (h23 : M (a + 23) = some (kf_la 1 (fun _ => 0))) : JI G a 0 la wi en pe A P M (a + 24) := by
  refine ⟨a + 24, jx_ea G, jx_ea G, 0, 0, -1, 0, 0, 0, 0, 0, 0, 0, fun _ => 0, fun _ => (0, 0, 0, 0, 0), fun _ _ => 0, 0, fun _ => 0, fun _ => 0, fun _ => (0, 0, fun _ => 0, fun _ => 0, fun _ => 0), 0, fun _ => 0, 0, fun _ => 0, 0, fun _ => 0, 0, fun _ => 0, 0, 0, 0, ?_, ?_, h23, Nat.le_refl _, ?_⟩
  · refine ⟨f0, f3, f4, f5, f6, f7, f8, ⟨⟨⟨⟨0, f1⟩, Or.inl ⟨rfl, rfl⟩⟩, by omega, fun i hi => absurd hi (Nat.not_lt_zero _)⟩, fun i hi => absurd hi (Nat.not_lt_zero _), Nat.le_refl _, Or.inl ⟨rfl, rfl⟩, fun i hi => absurd hi (Nat.not_lt_zero _), fun i j _ hj => absurd hj (Nat.not_lt_zero _)⟩, ⟨⟨⟨0, f2⟩, Or.inl ⟨rfl, rfl⟩⟩, by omega, Or.inl ⟨rfl, rfl⟩, fun j hj => absurd hj (Nat.not_lt_zero _), fun i j _ hj => absurd hj (Nat.not_lt_zero _)⟩⟩
  · refine ⟨0, fun _ => 0, fun _ => 0, fun _ => 0, fun _ => 0, fun _ => 0, fun _ => 0, fun _ => 0, fun _ => 0, fun _ => 0, fun _ => 0, fun _ => 0, fun h => absurd h (by decide), g0, gO, ⟨by omega, fun i hi => absurd hi (Nat.not_lt_zero _), fun i _ => ?_⟩, ⟨by omega, fun j hj => absurd hj (Nat.not_lt_zero _), fun j _ _ => ⟨rfl, rfl⟩⟩, by omega, fun i hi => absurd hi (Nat.not_lt_zero _)⟩
    rw [if_neg (Nat.not_lt_zero _)]
    exact nI_0.symm
  · exact ⟨⟨Or.inl ⟨rfl, rfl⟩, by omega, rfl, Nat.zero_le _, ⟨0, rfl⟩⟩, ⟨Or.inl rfl, Or.inl rfl⟩, fun j hj => absurd hj (Nat.not_lt_zero _), fun _ => rfl, ⟨rfl, Nat.le_refl _, ⟨fun h => absurd rfl h, fun h => absurd h (Nat.lt_irrefl _)⟩⟩, Nat.le_refl _, Nat.le_refl _, by omega⟩
section START
variable {G : jx_G} {R : Room} {Q : Array Value → State → List Frame → State → Prop}
theorem o_law (hRm : 12 ≤ R.frames ∧ 482 ≤ R.locals) (hRc : 2700 ≤ R.cells) (hRs : 120000 ≤ R.slots) (hl : jx_sl G ≤ 3588) (ke : ∀ i M' sz', jx_V md_L_law [] G R Q 1418 [some (.ref (jx_sa G)), some (.ref (jx_B G)), some (.ref (jx_B G + 9)), some (.ref (jx_B G + 23)), some (.int i), none, none, none] [.int 1] M' sz' 2700 120000) : jx_V md_L_law [] G R Q 0 [some (.ref (jx_sa G)), none, none, none, none, none, none, none] [] (fun _ => none) (jx_B G) 0 0 := by
  generalize jx_B G = a at ke ⊢
  obtain ⟨A, hA, hA1⟩ := sp_cl_nI (sp_cell G 0)
  obtain ⟨Wd, hWd, hWd1⟩ := sp_cl_nI (sp_cell G 1)
  obtain ⟨P, hP, hP1⟩ := sp_cl_nI (sp_cell G 3)
  have hset : sp_set (sp_cl (sp_cell G 0)) (sp_cl (sp_cell G 1)) (sp_cl (sp_cell G 2)) (sp_cl (sp_cell G 3)) A Wd P := ⟨⟨hA, hA1⟩, ⟨hWd, hWd1⟩, hP, hP1⟩
  refine jx_new (k := 4) nt_K d_L_law_0 rfl nw_K no_K nk_L_8 ni_K nd_K nz_K (by omega) (by omega) (fun hno => ?_)
  refine jx_dup d_L_law_3 rfl ?_
  refine jx_aload_n (i := 0) d_L_law_4 rfl rfl ?_
  refine jx_iconst (v := nI 0) d_L_law_5 (by decide) ?_
  refine jx_callS2 d_L_law_6 ms_L_70 (jx_okl hRm (show 10 ≤ 10 by omega) (Nat.le_of_ble_eq_true rfl)) (Nat.le_of_ble_eq_true rfl) (by omega) (by omega) (c_L_cell (d := 10) (k := 0) hl (by omega) ?_)
  try dsimp only [Option.toList, List.cons_append, List.nil_append]
  refine jx_aload_n (i := 0) d_L_law_9 rfl rfl ?_
  refine jx_iconst (v := nI 1) d_L_law_10 (by decide) ?_
  refine jx_callS2 d_L_law_11 ms_L_70 (jx_okl hRm (show 10 ≤ 10 by omega) (Nat.le_of_ble_eq_true rfl)) (Nat.le_of_ble_eq_true rfl) (by omega) (by omega) (c_L_cell (d := 10) (k := 1) hl (by omega) ?_)
  try dsimp only [Option.toList, List.cons_append, List.nil_append]
  refine jx_aload_n (i := 0) d_L_law_14 rfl rfl ?_
  refine jx_iconst (v := nI 2) d_L_law_15 (by decide) ?_
  refine jx_callS2 d_L_law_16 ms_L_70 (jx_okl hRm (show 10 ≤ 10 by omega) (Nat.le_of_ble_eq_true rfl)) (Nat.le_of_ble_eq_true rfl) (by omega) (by omega) (c_L_cell (d := 10) (k := 2) hl (by omega) ?_)
  try dsimp only [Option.toList, List.cons_append, List.nil_append]
  refine jx_aload_n (i := 0) d_L_law_19 rfl rfl ?_
  refine jx_iconst (v := nI 3) d_L_law_20 (by decide) ?_
  refine jx_callS2 d_L_law_21 ms_L_70 (jx_okl hRm (show 10 ≤ 10 by omega) (Nat.le_of_ble_eq_true rfl)) (Nat.le_of_ble_eq_true rfl) (by omega) (by omega) (c_L_cell (d := 10) (k := 3) hl (by omega) ?_)
  try dsimp only [Option.toList, List.cons_append, List.nil_append]
  refine jx_callI4 d_L_law_24 mi_L_76 (jx_okl hRm (show 10 ≤ 10 by omega) (Nat.le_of_ble_eq_true rfl)) (Nat.le_of_ble_eq_true rfl) (by omega) (by omega) (c_K_init (d := 10) (by omega) rfl (jx_up_s _ _ _) (fun M1 f0 f1 f2 f3 f4 f5 f6 f7 f8 low1 => ?_))
  try dsimp only [Option.toList, List.cons_append, List.nil_append]
  refine jx_astore_n (i := 1) d_L_law_27 rfl (Nat.le_of_ble_eq_true rfl) (jx_e8_1 (by trivial)) ?_
  refine jx_new (k := 5) nt_M d_L_law_28 rfl nw_M no_M nk_L_79 ni_M nd_M nz_M (by omega) (by omega) (fun hno2 => ?_)
  refine jx_dup d_L_law_31 rfl ?_
  refine jx_aload_n (i := 0) d_L_law_32 rfl rfl ?_
  refine jx_iconst (v := nI 0) d_L_law_33 (by decide) ?_
  refine jx_callS2 d_L_law_34 ms_L_70 (jx_okl hRm (show 10 ≤ 10 by omega) (Nat.le_of_ble_eq_true rfl)) (Nat.le_of_ble_eq_true rfl) (by omega) (by omega) (c_L_cell (d := 10) (k := 0) hl (by omega) ?_)
  try dsimp only [Option.toList, List.cons_append, List.nil_append]
  refine jx_aload_n (i := 0) d_L_law_37 rfl rfl ?_
  refine jx_iconst (v := nI 1) d_L_law_38 (by decide) ?_
  refine jx_callS2 d_L_law_39 ms_L_70 (jx_okl hRm (show 10 ≤ 10 by omega) (Nat.le_of_ble_eq_true rfl)) (Nat.le_of_ble_eq_true rfl) (by omega) (by omega) (c_L_cell (d := 10) (k := 1) hl (by omega) ?_)
  try dsimp only [Option.toList, List.cons_append, List.nil_append]
  refine jx_aload_n (i := 0) d_L_law_42 rfl rfl ?_
  refine jx_iconst (v := nI 2) d_L_law_43 (by decide) ?_
  refine jx_callS2 d_L_law_44 ms_L_70 (jx_okl hRm (show 10 ≤ 10 by omega) (Nat.le_of_ble_eq_true rfl)) (Nat.le_of_ble_eq_true rfl) (by omega) (by omega) (c_L_cell (d := 10) (k := 2) hl (by omega) ?_)
  try dsimp only [Option.toList, List.cons_append, List.nil_append]
  refine jx_aload_n (i := 0) d_L_law_47 rfl rfl ?_
  refine jx_iconst (v := nI 3) d_L_law_48 (by decide) ?_
  refine jx_callS2 d_L_law_49 ms_L_70 (jx_okl hRm (show 10 ≤ 10 by omega) (Nat.le_of_ble_eq_true rfl)) (Nat.le_of_ble_eq_true rfl) (by omega) (by omega) (c_L_cell (d := 10) (k := 3) hl (by omega) ?_)
  try dsimp only [Option.toList, List.cons_append, List.nil_append]
  refine jx_callI4 d_L_law_52 mi_L_81 (jx_okl hRm (show 10 ≤ 10 by omega) (Nat.le_of_ble_eq_true rfl)) (Nat.le_of_ble_eq_true rfl) (by omega) (by omega) (c_M_init (d := 10) (by omega) rfl (jx_up_s _ _ _) (fun M3 g0 gO low3 => ?_))
  try dsimp only [Option.toList, List.cons_append, List.nil_append]
  refine jx_astore_n (i := 2) d_L_law_55 rfl (Nat.le_of_ble_eq_true rfl) (jx_e8_2 (by trivial)) ?_
  refine jx_iconst (v := 1) d_L_law_56 (by decide) ?_
  refine jx_newa (N := 1) (ak := 51) (t0 := 1) (a0 := (1, .inr (.inl fun _ => 0))) d_L_law_57 rfl na_long rfl (fun _ => rfl) (by decide) (by decide) (by decide) (by omega) (by omega) (fun hno3 => ?_)
  refine jx_astore_n (i := 3) d_L_law_59 rfl (Nat.le_of_ble_eq_true rfl) (jx_e8_3 (by trivial)) ?_
  refine jx_iconst (v := nI (4 + 7 * 0)) d_L_law_60 (by decide) ?_
  refine jx_istore d_L_law_61 (Nat.le_of_ble_eq_true rfl) (jx_e8_4 (by trivial)) ?_
  have lw : ∀ q, q < a + 9 → jx_up M3 (a + 23) (kf_la 1 (fun _ => 0)) q = M1 q := fun q hq => (jx_up_n _ _ (by omega)).trans ((low3 q hq).trans (jx_up_n _ _ (by omega)))
  exact jx_wi (by omega) (by omega) (o_loop hRm hRc hRs hl hset ke 513 0 (a + 24) _ (by omega) (by omega) (JI.zero ((lw _ (by omega)).trans f0) ((lw _ (by omega)).trans f1) ((lw _ (by omega)).trans f2) ((lw _ (by omega)).trans f3) ((lw _ (by omega)).trans f4) ((lw _ (by omega)).trans f5) ((lw _ (by omega)).trans f6) ((lw _ (by omega)).trans f7) ((lw _ (by omega)).trans f8) ((jx_up_n _ _ (by omega)).trans g0) (gO.to (fun q q1 q2 => jx_up_n _ _ (by omega))) (jx_up_s _ _ _)))
end START
