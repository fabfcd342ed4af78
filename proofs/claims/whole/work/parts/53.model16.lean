/-! PART 53: the reference: its constructor -/
theorem nz_M : ∀ j, j < 33 → defaultValue (nt_M j) = vp_V [.int 0, .int 0, .int 0, .int 0, .int 0, .int 0, .null, .null, .null, .null, .null, .int 0, .int 0, .int 0, .null, .null, .null, .null, .null, .int 0, .null, .int 0, .long 0, .long 0, .int 0, .null, .int 0, .null, .int 0, .int 0, .int 0, .int 0, .int 0] j := by decide
abbrev kf_M0 : jx_E := .inl (5, [.int 0, .int 0, .int 0, .int 0, .int 0, .int 0, .null, .null, .null, .null, .null, .int 0, .int 0, .int 0, .null, .null, .null, .null, .null, .int 0, .null, .int 0, .long 0, .long 0, .int 0, .null, .int 0, .null, .int 0, .int 0, .int 0, .int 0, .int 0])
section CM16
variable {G : jx_G} {d b sz : Nat} {x x2 x3 x4 : Int32} {M : jx_H} {Z : Option Value → jx_H → Nat → Prop}
theorem v_M_init (hd : 0 < d) (hB : M b = some (.inl (5, [.int 0, .int 0, .int 0, .int 0, .int 0, .int 0, .ref (b + 1), .ref (b + 2), .ref (b + 3), .ref (b + 4), .ref (b + 5), .int 0, .int 0, .int 0, .ref (b + 6), .ref (b + 7), .ref (b + 8), .ref (b + 9), .ref (b + 10), .int 0, .ref (b + 11), .int 0, .long 0, .long 0, .int 0, .ref (b + 12), .int 0, .ref (b + 13), .int 0, .int 0, .int 0, .int 0, .int 0]))) (k : Z none (jx_up M b (kf_M (sp_cl x) (sp_cl x2) (sp_cl x3) (sp_cl x4) 0 0 b 0 0 0 0 0 0 0 0 0 0 0 0 0 0)) sz) : jx_V md_M_init [] G (jx_rm d 13 11000) (jx_Q1 G 13 11000 Z) 113 [some (.ref b), some (.int x), some (.int x2), some (.int x3), some (.int x4)] [] M sz 13 10858 := by
  refine jx_aload_n (i := 0) d_M_init_113 rfl rfl ?_
  refine jx_aload_n (i := 0) d_M_init_114 rfl rfl ?_
  refine jx_iload_n (i := 1) d_M_init_115 rfl rfl ?_
  refine jx_callV1 d_M_init_116 mv_M_50 hB rfl (jx_ok_rm (by omega) (Nat.le_of_ble_eq_true rfl)) (Nat.le_of_ble_eq_true rfl) (jx_rmc (by omega)) (jx_rms (by omega)) (c_M_held (d := 0) hB ?_)
  dsimp only [Option.toList, List.cons_append, List.nil_append]
  refine jx_putf d_M_init_119 pf_M_54 hB (Nat.le_of_ble_eq_true rfl) rfl rfl ?_
  refine jx_aload_n (i := 0) d_M_init_122 rfl rfl ?_
  refine jx_aload_n (i := 0) d_M_init_123 rfl rfl ?_
  refine jx_iload_n (i := 2) d_M_init_124 rfl rfl ?_
  refine jx_callV1 d_M_init_125 mv_M_50 (jx_up_s _ _ _) rfl (jx_ok_rm (by omega) (Nat.le_of_ble_eq_true rfl)) (Nat.le_of_ble_eq_true rfl) (jx_rmc (by omega)) (jx_rms (by omega)) (c_M_held (d := 0) (jx_up_s _ _ _) ?_)
  dsimp only [Option.toList, List.cons_append, List.nil_append]
  refine jx_putf d_M_init_128 pf_M_58 (jx_up_s _ _ _) (Nat.le_of_ble_eq_true rfl) rfl rfl ?_
  refine jx_aload_n (i := 0) d_M_init_131 rfl rfl ?_
  refine jx_aload_n (i := 0) d_M_init_132 rfl rfl ?_
  refine jx_iload_n (i := 3) d_M_init_133 rfl rfl ?_
  rw [jx_up_u]
  refine jx_callV1 d_M_init_134 mv_M_50 (jx_up_s _ _ _) rfl (jx_ok_rm (by omega) (Nat.le_of_ble_eq_true rfl)) (Nat.le_of_ble_eq_true rfl) (jx_rmc (by omega)) (jx_rms (by omega)) (c_M_held (d := 0) (jx_up_s _ _ _) ?_)
  dsimp only [Option.toList, List.cons_append, List.nil_append]
  refine jx_putf d_M_init_137 pf_M_61 (jx_up_s _ _ _) (Nat.le_of_ble_eq_true rfl) rfl rfl ?_
  refine jx_aload_n (i := 0) d_M_init_140 rfl rfl ?_
  refine jx_aload_n (i := 0) d_M_init_141 rfl rfl ?_
  refine jx_iload d_M_init_142 rfl ?_
  rw [jx_up_u]
  refine jx_callV1 d_M_init_144 mv_M_50 (jx_up_s _ _ _) rfl (jx_ok_rm (by omega) (Nat.le_of_ble_eq_true rfl)) (Nat.le_of_ble_eq_true rfl) (jx_rmc (by omega)) (jx_rms (by omega)) (c_M_held (d := 0) (jx_up_s _ _ _) ?_)
  dsimp only [Option.toList, List.cons_append, List.nil_append]
  refine jx_putf d_M_init_147 pf_M_64 (jx_up_s _ _ _) (Nat.le_of_ble_eq_true rfl) rfl rfl ?_
  rw [jx_up_u]
  exact jx_vret d_M_init_150 rfl (by omega) (by omega) k
theorem c_M_init (hd : 0 < d) (hsz : sz = b + 1) (hB : M b = some kf_M0) (k : ∀ M', M' b = some (kf_M (sp_cl x) (sp_cl x2) (sp_cl x3) (sp_cl x4) 0 0 b 0 0 0 0 0 0 0 0 0 0 0 0 0 0) → mO M' b (fun _ => 0) (fun _ => 0) (fun _ => 0) (fun _ => 0) (fun _ => 0) (fun _ => 0) (fun _ => 0) (fun _ => 0) (fun _ => 0) (fun _ => 0) (fun _ => 0) (fun _ => 0) (fun _ => 0) → (∀ q, q < b → M' q = M q) → Z none M' (b + 14)) : jx_Cr md_M_init G d [.ref b, .int x, .int x2, .int x3, .int x4] M sz 13 11000 Z := by
  subst hsz
  refine jx_ent rfl (Nat.le_of_ble_eq_true rfl) (l := [some (.ref b), some (.int x), some (.int x2), some (.int x3), some (.int x4)]) (by simp [jx_le, jx_eas, Value.category]) (fun hlt => ?_)
  refine jx_aload_n (i := 0) d_M_init_0 rfl rfl ?_
  refine jx_objInit d_M_init_1 mo_M_1 (Nat.succ_le_succ (Nat.zero_le _)) (jx_rml (Nat.le_of_ble_eq_true rfl)) ?_
  refine jx_aload_n (i := 0) d_M_init_4 rfl rfl ?_
  refine jx_bipush (v := 6) d_M_init_5 (by decide) ?_
  refine jx_newa (N := 6) (ak := 50) (t0 := 0) (a0 := (6, .inl fun _ => 0)) d_M_init_7 rfl na_int rfl (fun _ => rfl) (by decide) (by decide) (by decide) (jx_rmc (by omega)) (jx_rms (by omega)) (fun hno => ?_)
  refine jx_putf d_M_init_9 pf_M_7 ((jx_up_n _ _ (by omega)).trans hB) (Nat.le_of_ble_eq_true rfl) rfl rfl ?_
  refine jx_aload_n (i := 0) d_M_init_12 rfl rfl ?_
  refine jx_bipush (v := 6) d_M_init_13 (by decide) ?_
  refine jx_newa (N := 6) (ak := 51) (t0 := 1) (a0 := (6, .inr (.inl fun _ => 0))) d_M_init_15 rfl na_long rfl (fun _ => rfl) (by decide) (by decide) (by decide) (jx_rmc (by omega)) (jx_rms (by omega)) (fun hno => ?_)
  refine jx_putf d_M_init_17 pf_M_13 ((jx_up_n _ _ (by omega)).trans (jx_up_s _ _ _)) (Nat.le_of_ble_eq_true rfl) rfl rfl ?_
  rw [jx_up_c _ _ _ (show b ≠ _ by omega), jx_up_u]
  refine jx_aload_n (i := 0) d_M_init_20 rfl rfl ?_
  refine jx_bipush (v := 6) d_M_init_21 (by decide) ?_
  refine jx_newa (N := 6) (ak := 51) (t0 := 1) (a0 := (6, .inr (.inl fun _ => 0))) d_M_init_23 rfl na_long rfl (fun _ => rfl) (by decide) (by decide) (by decide) (jx_rmc (by omega)) (jx_rms (by omega)) (fun hno => ?_)
  refine jx_putf d_M_init_25 pf_M_17 ((jx_up_n _ _ (by omega)).trans (jx_up_s _ _ _)) (Nat.le_of_ble_eq_true rfl) rfl rfl ?_
  rw [jx_up_c _ _ _ (show b ≠ _ by omega), jx_up_u]
  refine jx_aload_n (i := 0) d_M_init_28 rfl rfl ?_
  refine jx_bipush (v := 6) d_M_init_29 (by decide) ?_
  refine jx_newa (N := 6) (ak := 50) (t0 := 0) (a0 := (6, .inl fun _ => 0)) d_M_init_31 rfl na_int rfl (fun _ => rfl) (by decide) (by decide) (by decide) (jx_rmc (by omega)) (jx_rms (by omega)) (fun hno => ?_)
  refine jx_putf d_M_init_33 pf_M_20 ((jx_up_n _ _ (by omega)).trans (jx_up_s _ _ _)) (Nat.le_of_ble_eq_true rfl) rfl rfl ?_
  rw [jx_up_c _ _ _ (show b ≠ _ by omega), jx_up_u]
  refine jx_aload_n (i := 0) d_M_init_36 rfl rfl ?_
  refine jx_bipush (v := 24) d_M_init_37 (by decide) ?_
  refine jx_newa (N := 24) (ak := 51) (t0 := 1) (a0 := (24, .inr (.inl fun _ => 0))) d_M_init_39 rfl na_long rfl (fun _ => rfl) (by decide) (by decide) (by decide) (jx_rmc (by omega)) (jx_rms (by omega)) (fun hno => ?_)
  refine jx_putf d_M_init_41 pf_M_23 ((jx_up_n _ _ (by omega)).trans (jx_up_s _ _ _)) (Nat.le_of_ble_eq_true rfl) rfl rfl ?_
  rw [jx_up_c _ _ _ (show b ≠ _ by omega), jx_up_u]
  refine jx_aload_n (i := 0) d_M_init_44 rfl rfl ?_
  refine jx_bipush (v := 30) d_M_init_45 (by decide) ?_
  refine jx_newa (N := 30) (ak := 51) (t0 := 1) (a0 := (30, .inr (.inl fun _ => 0))) d_M_init_47 rfl na_long rfl (fun _ => rfl) (by decide) (by decide) (by decide) (jx_rmc (by omega)) (jx_rms (by omega)) (fun hno => ?_)
  refine jx_putf d_M_init_49 pf_M_26 ((jx_up_n _ _ (by omega)).trans (jx_up_s _ _ _)) (Nat.le_of_ble_eq_true rfl) rfl rfl ?_
  rw [jx_up_c _ _ _ (show b ≠ _ by omega), jx_up_u]
  refine jx_aload_n (i := 0) d_M_init_52 rfl rfl ?_
  refine jx_bipush (v := 30) d_M_init_53 (by decide) ?_
  refine jx_newa (N := 30) (ak := 50) (t0 := 0) (a0 := (30, .inl fun _ => 0)) d_M_init_55 rfl na_int rfl (fun _ => rfl) (by decide) (by decide) (by decide) (jx_rmc (by omega)) (jx_rms (by omega)) (fun hno => ?_)
  refine jx_putf d_M_init_57 pf_M_29 ((jx_up_n _ _ (by omega)).trans (jx_up_s _ _ _)) (Nat.le_of_ble_eq_true rfl) rfl rfl ?_
  rw [jx_up_c _ _ _ (show b ≠ _ by omega), jx_up_u]
  refine jx_aload_n (i := 0) d_M_init_60 rfl rfl ?_
  refine jx_bipush (v := 30) d_M_init_61 (by decide) ?_
  refine jx_newa (N := 30) (ak := 50) (t0 := 0) (a0 := (30, .inl fun _ => 0)) d_M_init_63 rfl na_int rfl (fun _ => rfl) (by decide) (by decide) (by decide) (jx_rmc (by omega)) (jx_rms (by omega)) (fun hno => ?_)
  refine jx_putf d_M_init_65 pf_M_32 ((jx_up_n _ _ (by omega)).trans (jx_up_s _ _ _)) (Nat.le_of_ble_eq_true rfl) rfl rfl ?_
  rw [jx_up_c _ _ _ (show b ≠ _ by omega), jx_up_u]
  refine jx_aload_n (i := 0) d_M_init_68 rfl rfl ?_
  refine jx_sipush (v := 1860) d_M_init_69 (by decide) ?_
  refine jx_newa (N := 1860) (ak := 51) (t0 := 1) (a0 := (1860, .inr (.inl fun _ => 0))) d_M_init_72 rfl na_long rfl (fun _ => rfl) (by decide) (by decide) (by decide) (jx_rmc (by omega)) (jx_rms (by omega)) (fun hno => ?_)
  refine jx_putf d_M_init_74 pf_M_35 ((jx_up_n _ _ (by omega)).trans (jx_up_s _ _ _)) (Nat.le_of_ble_eq_true rfl) rfl rfl ?_
  rw [jx_up_c _ _ _ (show b ≠ _ by omega), jx_up_u]
  refine jx_aload_n (i := 0) d_M_init_77 rfl rfl ?_
  refine jx_sipush (v := 1860) d_M_init_78 (by decide) ?_
  refine jx_newa (N := 1860) (ak := 51) (t0 := 1) (a0 := (1860, .inr (.inl fun _ => 0))) d_M_init_81 rfl na_long rfl (fun _ => rfl) (by decide) (by decide) (by decide) (jx_rmc (by omega)) (jx_rms (by omega)) (fun hno => ?_)
  refine jx_putf d_M_init_83 pf_M_38 ((jx_up_n _ _ (by omega)).trans (jx_up_s _ _ _)) (Nat.le_of_ble_eq_true rfl) rfl rfl ?_
  rw [jx_up_c _ _ _ (show b ≠ _ by omega), jx_up_u]
  refine jx_aload_n (i := 0) d_M_init_86 rfl rfl ?_
  refine jx_sipush (v := 4200) d_M_init_87 (by decide) ?_
  refine jx_newa (N := 4200) (ak := 51) (t0 := 1) (a0 := (4200, .inr (.inl fun _ => 0))) d_M_init_90 rfl na_long rfl (fun _ => rfl) (by decide) (by decide) (by decide) (jx_rmc (by omega)) (jx_rms (by omega)) (fun hno => ?_)
  refine jx_putf d_M_init_92 pf_M_41 ((jx_up_n _ _ (by omega)).trans (jx_up_s _ _ _)) (Nat.le_of_ble_eq_true rfl) rfl rfl ?_
  rw [jx_up_c _ _ _ (show b ≠ _ by omega), jx_up_u]
  refine jx_aload_n (i := 0) d_M_init_95 rfl rfl ?_
  refine jx_sipush (v := 400) d_M_init_96 (by decide) ?_
  refine jx_newa (N := 400) (ak := 51) (t0 := 1) (a0 := (400, .inr (.inl fun _ => 0))) d_M_init_99 rfl na_long rfl (fun _ => rfl) (by decide) (by decide) (by decide) (jx_rmc (by omega)) (jx_rms (by omega)) (fun hno => ?_)
  refine jx_putf d_M_init_101 pf_M_44 ((jx_up_n _ _ (by omega)).trans (jx_up_s _ _ _)) (Nat.le_of_ble_eq_true rfl) rfl rfl ?_
  rw [jx_up_c _ _ _ (show b ≠ _ by omega), jx_up_u]
  refine jx_aload_n (i := 0) d_M_init_104 rfl rfl ?_
  refine jx_sipush (v := 2400) d_M_init_105 (by decide) ?_
  refine jx_newa (N := 2400) (ak := 51) (t0 := 1) (a0 := (2400, .inr (.inl fun _ => 0))) d_M_init_108 rfl na_long rfl (fun _ => rfl) (by decide) (by decide) (by decide) (jx_rmc (by omega)) (jx_rms (by omega)) (fun hno => ?_)
  refine jx_putf d_M_init_110 pf_M_47 ((jx_up_n _ _ (by omega)).trans (jx_up_s _ _ _)) (Nat.le_of_ble_eq_true rfl) rfl rfl ?_
  rw [jx_up_c _ _ _ (show b ≠ _ by omega), jx_up_u]
  refine v_M_init hd (jx_up_s _ _ _) ?_
  rw [jx_up_u]
  refine k _ (jx_up_s _ _ _) ⟨?_, ?_, ?_, ?_, ?_, ?_, ?_, ?_, ?_, ?_, ?_, ?_, ?_⟩ (fun q hq => ?_)
  · exact (jx_up_n _ _ (by omega)).trans ((jx_up_n _ _ (by omega)).trans ((jx_up_n _ _ (by omega)).trans ((jx_up_n _ _ (by omega)).trans ((jx_up_n _ _ (by omega)).trans ((jx_up_n _ _ (by omega)).trans ((jx_up_n _ _ (by omega)).trans ((jx_up_n _ _ (by omega)).trans ((jx_up_n _ _ (by omega)).trans ((jx_up_n _ _ (by omega)).trans ((jx_up_n _ _ (by omega)).trans ((jx_up_n _ _ (by omega)).trans ((jx_up_n _ _ (by omega)).trans (jx_up_s _ _ _)))))))))))))
  · exact (jx_up_n _ _ (by omega)).trans ((jx_up_n _ _ (by omega)).trans ((jx_up_n _ _ (by omega)).trans ((jx_up_n _ _ (by omega)).trans ((jx_up_n _ _ (by omega)).trans ((jx_up_n _ _ (by omega)).trans ((jx_up_n _ _ (by omega)).trans ((jx_up_n _ _ (by omega)).trans ((jx_up_n _ _ (by omega)).trans ((jx_up_n _ _ (by omega)).trans ((jx_up_n _ _ (by omega)).trans ((jx_up_n _ _ (by omega)).trans (jx_up_s _ _ _))))))))))))
  · exact (jx_up_n _ _ (by omega)).trans ((jx_up_n _ _ (by omega)).trans ((jx_up_n _ _ (by omega)).trans ((jx_up_n _ _ (by omega)).trans ((jx_up_n _ _ (by omega)).trans ((jx_up_n _ _ (by omega)).trans ((jx_up_n _ _ (by omega)).trans ((jx_up_n _ _ (by omega)).trans ((jx_up_n _ _ (by omega)).trans ((jx_up_n _ _ (by omega)).trans ((jx_up_n _ _ (by omega)).trans (jx_up_s _ _ _)))))))))))
  · exact (jx_up_n _ _ (by omega)).trans ((jx_up_n _ _ (by omega)).trans ((jx_up_n _ _ (by omega)).trans ((jx_up_n _ _ (by omega)).trans ((jx_up_n _ _ (by omega)).trans ((jx_up_n _ _ (by omega)).trans ((jx_up_n _ _ (by omega)).trans ((jx_up_n _ _ (by omega)).trans ((jx_up_n _ _ (by omega)).trans ((jx_up_n _ _ (by omega)).trans (jx_up_s _ _ _))))))))))
  · exact (jx_up_n _ _ (by omega)).trans ((jx_up_n _ _ (by omega)).trans ((jx_up_n _ _ (by omega)).trans ((jx_up_n _ _ (by omega)).trans ((jx_up_n _ _ (by omega)).trans ((jx_up_n _ _ (by omega)).trans ((jx_up_n _ _ (by omega)).trans ((jx_up_n _ _ (by omega)).trans ((jx_up_n _ _ (by omega)).trans (jx_up_s _ _ _)))))))))
  · exact (jx_up_n _ _ (by omega)).trans ((jx_up_n _ _ (by omega)).trans ((jx_up_n _ _ (by omega)).trans ((jx_up_n _ _ (by omega)).trans ((jx_up_n _ _ (by omega)).trans ((jx_up_n _ _ (by omega)).trans ((jx_up_n _ _ (by omega)).trans ((jx_up_n _ _ (by omega)).trans (jx_up_s _ _ _))))))))
  · exact (jx_up_n _ _ (by omega)).trans ((jx_up_n _ _ (by omega)).trans ((jx_up_n _ _ (by omega)).trans ((jx_up_n _ _ (by omega)).trans ((jx_up_n _ _ (by omega)).trans ((jx_up_n _ _ (by omega)).trans ((jx_up_n _ _ (by omega)).trans (jx_up_s _ _ _)))))))
  · exact (jx_up_n _ _ (by omega)).trans ((jx_up_n _ _ (by omega)).trans ((jx_up_n _ _ (by omega)).trans ((jx_up_n _ _ (by omega)).trans ((jx_up_n _ _ (by omega)).trans ((jx_up_n _ _ (by omega)).trans (jx_up_s _ _ _))))))
  · exact (jx_up_n _ _ (by omega)).trans ((jx_up_n _ _ (by omega)).trans ((jx_up_n _ _ (by omega)).trans ((jx_up_n _ _ (by omega)).trans ((jx_up_n _ _ (by omega)).trans (jx_up_s _ _ _)))))
  · exact (jx_up_n _ _ (by omega)).trans ((jx_up_n _ _ (by omega)).trans ((jx_up_n _ _ (by omega)).trans ((jx_up_n _ _ (by omega)).trans (jx_up_s _ _ _))))
  · exact (jx_up_n _ _ (by omega)).trans ((jx_up_n _ _ (by omega)).trans ((jx_up_n _ _ (by omega)).trans (jx_up_s _ _ _)))
  · exact (jx_up_n _ _ (by omega)).trans ((jx_up_n _ _ (by omega)).trans (jx_up_s _ _ _))
  · exact (jx_up_n _ _ (by omega)).trans (jx_up_s _ _ _)
  · rw [jx_up_n _ _ (by omega), jx_up_n _ _ (by omega), jx_up_n _ _ (by omega), jx_up_n _ _ (by omega), jx_up_n _ _ (by omega), jx_up_n _ _ (by omega), jx_up_n _ _ (by omega), jx_up_n _ _ (by omega), jx_up_n _ _ (by omega), jx_up_n _ _ (by omega), jx_up_n _ _ (by omega), jx_up_n _ _ (by omega), jx_up_n _ _ (by omega), jx_up_n _ _ (by omega)]
end CM16
