/-! PART 11: the class Fold, the rest -/
/-- a step -/
def sp_st (kn : Nat) (p s v gp : Int64) (b : Bool) : Int64 := match kn with
  | 0 => s + v
  | 1 => if v ≤ s then s else v
  | 2 => if s ≤ v then s else v
  | 3 => v
  | 4 => if b then v else s
  | 5 => s * p + v
  | 6 => s + 1
  | 7 => s ^^^ (v * p)
  | _ => if gp ≤ s then s else gp
/-- a step taken back -/
def sp_bk (kn : Nat) (p s v : Int64) : Int64 := match kn with
  | 0 => s - v
  | 6 => s - 1
  | 7 => s ^^^ (v * p)
  | _ => s
theorem l_nlt {x z : Int64} (h : ¬ x < z) : z ≤ x := by
  rw [Int64.lt_iff_toInt_lt] at h
  rw [Int64.le_iff_toInt_le]
  omega
theorem l_nle {x z : Int64} (h : x < z) : ¬ z ≤ x := by
  rw [Int64.lt_iff_toInt_lt] at h
  rw [Int64.le_iff_toInt_le]
  omega
section CF2
variable {G : jx_G} {d a fa sz n kn : Nat} {kd : Int32} {s0 s p v gp : Int64} {b : Bool} {w : Nat → Int64} {M : jx_H} {Z : Option Value → jx_H → Nat → Prop}
theorem c_F_step (hk : kn ≤ 8) (h : M a = some (kf_F (nI kn) s0 p n fa)) (k : Z (some (.long (sp_st kn p s v gp b))) M sz) : jx_Cr md_F_step G d [.ref a, .long s, .long v, .long gp, .int (kf_b b)] M sz 0 0 Z := by
  refine jx_ent rfl (Nat.le_of_ble_eq_true rfl) (l := [some (.ref a), some (.long s), none, some (.long v), none, some (.long gp), none, some (.int (kf_b b))]) (by simp [jx_le, jx_eas, Value.category]) (fun hlt => ?_)
  refine jx_aload_n (i := 0) d_F_step_0 rfl rfl ?_
  refine jx_getf d_F_step_1 gf_F_19 h rfl ?_
  rcases (show kn = 0 ∨ kn = 1 ∨ kn = 2 ∨ kn = 3 ∨ kn = 4 ∨ kn = 5 ∨ kn = 6 ∨ kn = 7 ∨ kn = 8 by omega) with rfl | rfl | rfl | rfl | rfl | rfl | rfl | rfl | rfl
  · refine jx_tableIn (tgt := 52) d_F_step_4 (by decide) (by decide) rfl (by decide) ?_
    refine jx_lload_n (i := 1) d_F_step_52 rfl rfl ?_
    refine jx_lload_n (i := 3) d_F_step_53 rfl rfl ?_
    refine jx_ladd d_F_step_54 ?_
    exact jx_lret d_F_step_55 rfl (by omega) (by omega) k
  · refine jx_tableIn (tgt := 56) d_F_step_4 (by decide) (by decide) rfl (by decide) ?_
    refine jx_lload_n (i := 1) d_F_step_56 rfl rfl ?_
    refine jx_lload_n (i := 3) d_F_step_57 rfl rfl ?_
    refine jx_l_lt (tgt := 66) d_F_step_58 d_F_step_59 (by decide) (fun c58 => ?_) (fun c58 => ?_)
    · refine jx_lload_n (i := 3) d_F_step_66 rfl rfl ?_
      exact jx_lret d_F_step_67 rfl (by omega) (by omega) (by simpa [sp_st, l_nle c58] using k)
    · refine jx_lload_n (i := 1) d_F_step_62 rfl rfl ?_
      refine jx_goto (tgt := 67) d_F_step_63 (by decide) ?_
      exact jx_lret d_F_step_67 rfl (by omega) (by omega) (by simpa [sp_st, l_nlt c58] using k)
  · refine jx_tableIn (tgt := 68) d_F_step_4 (by decide) (by decide) rfl (by decide) ?_
    refine jx_lload_n (i := 1) d_F_step_68 rfl rfl ?_
    refine jx_lload_n (i := 3) d_F_step_69 rfl rfl ?_
    refine jx_l_gt (tgt := 78) d_F_step_70 d_F_step_71 (by decide) (fun c70 => ?_) (fun c70 => ?_)
    · refine jx_lload_n (i := 3) d_F_step_78 rfl rfl ?_
      exact jx_lret d_F_step_79 rfl (by omega) (by omega) (by simpa [sp_st, l_nle c70] using k)
    · refine jx_lload_n (i := 1) d_F_step_74 rfl rfl ?_
      refine jx_goto (tgt := 79) d_F_step_75 (by decide) ?_
      exact jx_lret d_F_step_79 rfl (by omega) (by omega) (by simpa [sp_st, l_nlt c70] using k)
  · refine jx_tableIn (tgt := 80) d_F_step_4 (by decide) (by decide) rfl (by decide) ?_
    refine jx_lload_n (i := 3) d_F_step_80 rfl rfl ?_
    exact jx_lret d_F_step_81 rfl (by omega) (by omega) k
  · refine jx_tableIn (tgt := 82) d_F_step_4 (by decide) (by decide) rfl (by decide) ?_
    refine jx_iload d_F_step_82 rfl ?_
    refine jx_if_eq (tgt := 91) d_F_step_84 (by decide) (fun c84 => ?_) (fun c84 => ?_)
    · refine jx_lload_n (i := 1) d_F_step_91 rfl rfl ?_
      exact jx_lret d_F_step_92 rfl (by omega) (by omega) (by cases b <;> simp_all [sp_st, kf_b])
    · refine jx_lload_n (i := 3) d_F_step_87 rfl rfl ?_
      refine jx_goto (tgt := 92) d_F_step_88 (by decide) ?_
      exact jx_lret d_F_step_92 rfl (by omega) (by omega) (by cases b <;> simp_all [sp_st, kf_b])
  · refine jx_tableIn (tgt := 93) d_F_step_4 (by decide) (by decide) rfl (by decide) ?_
    refine jx_lload_n (i := 1) d_F_step_93 rfl rfl ?_
    refine jx_aload_n (i := 0) d_F_step_94 rfl rfl ?_
    refine jx_getf d_F_step_95 gf_F_26 h rfl ?_
    refine jx_lmul d_F_step_98 ?_
    refine jx_lload_n (i := 3) d_F_step_99 rfl rfl ?_
    refine jx_ladd d_F_step_100 ?_
    exact jx_lret d_F_step_101 rfl (by omega) (by omega) k
  · refine jx_tableIn (tgt := 102) d_F_step_4 (by decide) (by decide) rfl (by decide) ?_
    refine jx_lload_n (i := 1) d_F_step_102 rfl rfl ?_
    refine jx_lconst (v := 1) d_F_step_103 (by decide) ?_
    refine jx_ladd d_F_step_104 ?_
    exact jx_lret d_F_step_105 rfl (by omega) (by omega) k
  · refine jx_tableIn (tgt := 106) d_F_step_4 (by decide) (by decide) rfl (by decide) ?_
    refine jx_lload_n (i := 1) d_F_step_106 rfl rfl ?_
    refine jx_lload_n (i := 3) d_F_step_107 rfl rfl ?_
    refine jx_aload_n (i := 0) d_F_step_108 rfl rfl ?_
    refine jx_getf d_F_step_109 gf_F_26 h rfl ?_
    refine jx_lmul d_F_step_112 ?_
    refine jx_lxor d_F_step_113 ?_
    exact jx_lret d_F_step_114 rfl (by omega) (by omega) k
  · refine jx_tableOut (tgt := 115) d_F_step_4 (by decide) (by decide) ?_
    refine jx_lload_n (i := 1) d_F_step_115 rfl rfl ?_
    refine jx_lload d_F_step_116 rfl ?_
    refine jx_l_lt (tgt := 126) d_F_step_118 d_F_step_119 (by decide) (fun c118 => ?_) (fun c118 => ?_)
    · refine jx_lload d_F_step_126 rfl ?_
      exact jx_lret d_F_step_128 rfl (by omega) (by omega) (by simpa [sp_st, l_nle c118] using k)
    · refine jx_lload_n (i := 1) d_F_step_122 rfl rfl ?_
      refine jx_goto (tgt := 128) d_F_step_123 (by decide) ?_
      exact jx_lret d_F_step_128 rfl (by omega) (by omega) (by simpa [sp_st, l_nlt c118] using k)
theorem c_F_stepTakenBack (hk : kn ≤ 8) (h : M a = some (kf_F (nI kn) s0 p n fa)) (k : Z (some (.long (sp_bk kn p s v))) M sz) : jx_Cr md_F_stepTakenBack G d [.ref a, .long s, .long v] M sz 0 0 Z := by
  refine jx_ent rfl (Nat.le_of_ble_eq_true rfl) (l := [some (.ref a), some (.long s), none, some (.long v), none]) (by simp [jx_le, jx_eas, Value.category]) (fun hlt => ?_)
  refine jx_aload_n (i := 0) d_F_stepTakenBack_0 rfl rfl ?_
  refine jx_getf d_F_stepTakenBack_1 gf_F_19 h rfl ?_
  rcases (show kn = 0 ∨ kn = 1 ∨ kn = 2 ∨ kn = 3 ∨ kn = 4 ∨ kn = 5 ∨ kn = 6 ∨ kn = 7 ∨ kn = 8 by omega) with rfl | rfl | rfl | rfl | rfl | rfl | rfl | rfl | rfl
  · refine jx_lookup (tgt := 40) d_F_stepTakenBack_4 (by decide) rfl (by decide) ?_
    refine jx_lload_n (i := 1) d_F_stepTakenBack_40 rfl rfl ?_
    refine jx_lload_n (i := 3) d_F_stepTakenBack_41 rfl rfl ?_
    refine jx_lsub d_F_stepTakenBack_42 ?_
    exact jx_lret d_F_stepTakenBack_43 rfl (by omega) (by omega) k
  · refine jx_lookup (tgt := 57) d_F_stepTakenBack_4 (by decide) rfl (by decide) ?_
    refine jx_lload_n (i := 1) d_F_stepTakenBack_57 rfl rfl ?_
    exact jx_lret d_F_stepTakenBack_58 rfl (by omega) (by omega) k
  · refine jx_lookup (tgt := 57) d_F_stepTakenBack_4 (by decide) rfl (by decide) ?_
    refine jx_lload_n (i := 1) d_F_stepTakenBack_57 rfl rfl ?_
    exact jx_lret d_F_stepTakenBack_58 rfl (by omega) (by omega) k
  · refine jx_lookup (tgt := 57) d_F_stepTakenBack_4 (by decide) rfl (by decide) ?_
    refine jx_lload_n (i := 1) d_F_stepTakenBack_57 rfl rfl ?_
    exact jx_lret d_F_stepTakenBack_58 rfl (by omega) (by omega) k
  · refine jx_lookup (tgt := 57) d_F_stepTakenBack_4 (by decide) rfl (by decide) ?_
    refine jx_lload_n (i := 1) d_F_stepTakenBack_57 rfl rfl ?_
    exact jx_lret d_F_stepTakenBack_58 rfl (by omega) (by omega) k
  · refine jx_lookup (tgt := 57) d_F_stepTakenBack_4 (by decide) rfl (by decide) ?_
    refine jx_lload_n (i := 1) d_F_stepTakenBack_57 rfl rfl ?_
    exact jx_lret d_F_stepTakenBack_58 rfl (by omega) (by omega) k
  · refine jx_lookup (tgt := 44) d_F_stepTakenBack_4 (by decide) rfl (by decide) ?_
    refine jx_lload_n (i := 1) d_F_stepTakenBack_44 rfl rfl ?_
    refine jx_lconst (v := 1) d_F_stepTakenBack_45 (by decide) ?_
    refine jx_lsub d_F_stepTakenBack_46 ?_
    exact jx_lret d_F_stepTakenBack_47 rfl (by omega) (by omega) k
  · refine jx_lookup (tgt := 48) d_F_stepTakenBack_4 (by decide) rfl (by decide) ?_
    refine jx_lload_n (i := 1) d_F_stepTakenBack_48 rfl rfl ?_
    refine jx_lload_n (i := 3) d_F_stepTakenBack_49 rfl rfl ?_
    refine jx_aload_n (i := 0) d_F_stepTakenBack_50 rfl rfl ?_
    refine jx_getf d_F_stepTakenBack_51 gf_F_26 h rfl ?_
    refine jx_lmul d_F_stepTakenBack_54 ?_
    refine jx_lxor d_F_stepTakenBack_55 ?_
    exact jx_lret d_F_stepTakenBack_56 rfl (by omega) (by omega) k
  · refine jx_lookup (tgt := 57) d_F_stepTakenBack_4 (by decide) rfl (by decide) ?_
    refine jx_lload_n (i := 1) d_F_stepTakenBack_57 rfl rfl ?_
    exact jx_lret d_F_stepTakenBack_58 rfl (by omega) (by omega) k
theorem c_F_addFailing (hn : n < 4) (h : M a = some (kf_F kd s p n fa)) (hf : M fa = some (kf_la 4 w)) (hne : a ≠ fa) (k : Z none (jx_up (jx_up M fa (kf_la 4 (vp_updL w n v))) a (kf_F kd s p (n + 1) fa)) sz) : jx_Cr md_F_addFailing G d [.ref a, .long v] M sz 0 0 Z := by
  refine jx_ent rfl (Nat.le_of_ble_eq_true rfl) (l := [some (.ref a), some (.long v), none]) (by simp [jx_le, jx_eas, Value.category]) (fun hlt => ?_)
  refine jx_aload_n (i := 0) d_F_addFailing_0 rfl rfl ?_
  refine jx_getf d_F_addFailing_1 gf_F_9 h rfl ?_
  refine jx_iconst (v := 4) d_F_addFailing_4 (by decide) ?_
  refine jx_icmp_ge (tgt := 28) d_F_addFailing_5 (by decide) (fun c5 => ?_) (fun c5 => ?_)
  · exact absurd c5 (fun q => by have := (nI_leI (a := 4) (by omega) (by omega)).mp q; omega)
  · refine jx_aload_n (i := 0) d_F_addFailing_8 rfl rfl ?_
    refine jx_getf d_F_addFailing_9 gf_F_15 h rfl ?_
    refine jx_aload_n (i := 0) d_F_addFailing_12 rfl rfl ?_
    refine jx_getf d_F_addFailing_13 gf_F_9 h rfl ?_
    refine jx_lload_n (i := 1) d_F_addFailing_16 rfl rfl ?_
    refine jx_last (t0 := 1) d_F_addFailing_17 hf rfl (vp_in_nI (by omega) (by omega)) ?_
    rw [nI_clamp (by omega)]
    refine jx_aload_n (i := 0) d_F_addFailing_18 rfl rfl ?_
    refine jx_dup d_F_addFailing_19 rfl ?_
    refine jx_getf d_F_addFailing_20 gf_F_9 (by rw [jx_up_n _ _ hne]; exact h) rfl ?_
    refine jx_iconst (v := 1) d_F_addFailing_23 (by decide) ?_
    refine jx_iadd d_F_addFailing_24 ?_
    refine jx_putf d_F_addFailing_25 pf_F_9 (by rw [jx_up_n _ _ hne]; exact h) (Nat.le_of_ble_eq_true rfl) rfl rfl ?_
    exact jx_vret d_F_addFailing_28 rfl (by omega) (by omega) (by rw [nI_1]; exact k)
theorem c_F_init (h : M a = some (.inl (0, [.int 0, .long 0, .long 0, .int 0, .null]))) (k : Z none (jx_up (jx_up M sz (kf_la 4 (fun _ => 0))) a (kf_F kd s p 0 sz)) (sz + 1)) : jx_Cr md_F_init G d [.ref a, .int kd, .long s, .long p] M sz 1 4 Z := by
  refine jx_ent rfl (Nat.le_of_ble_eq_true rfl) (l := [some (.ref a), some (.int kd), some (.long s), none, some (.long p), none]) (by simp [jx_le, jx_eas, Value.category]) (fun hlt => ?_)
  have hne : a ≠ sz := Nat.ne_of_lt (hlt a _ h)
  refine jx_aload_n (i := 0) d_F_init_0 rfl rfl ?_
  refine jx_objInit d_F_init_1 mo_F_3 (Nat.succ_le_succ (Nat.zero_le _)) (jx_rml (Nat.le_of_ble_eq_true rfl)) ?_
  refine jx_aload_n (i := 0) d_F_init_4 rfl rfl ?_
  refine jx_iconst (v := 0) d_F_init_5 (by decide) ?_
  refine jx_putf d_F_init_6 pf_F_9 h (Nat.le_of_ble_eq_true rfl) rfl rfl ?_
  refine jx_aload_n (i := 0) d_F_init_9 rfl rfl ?_
  refine jx_iconst (v := 4) d_F_init_10 (by decide) ?_
  refine jx_newa (N := 4) (ak := 51) (t0 := 1) (a0 := (4, .inr (.inl fun _ => 0))) d_F_init_11 rfl na_long rfl (fun _ => rfl) (by decide) (by decide) (by decide) (jx_rmc (by omega)) (jx_rms (by omega)) (fun hno => ?_)
  refine jx_putf d_F_init_13 pf_F_15 ((jx_up_n _ _ hne).trans (jx_up_s _ _ _)) (Nat.le_of_ble_eq_true rfl) rfl rfl ?_
  refine jx_aload_n (i := 0) d_F_init_16 rfl rfl ?_
  refine jx_iload_n (i := 1) d_F_init_17 rfl rfl ?_
  refine jx_putf d_F_init_18 pf_F_19 (jx_up_s _ _ _) (Nat.le_of_ble_eq_true rfl) rfl rfl ?_
  refine jx_aload_n (i := 0) d_F_init_21 rfl rfl ?_
  refine jx_lload_n (i := 2) d_F_init_22 rfl rfl ?_
  refine jx_putf d_F_init_23 pf_F_22 (jx_up_s _ _ _) (Nat.le_of_ble_eq_true rfl) rfl rfl ?_
  refine jx_aload_n (i := 0) d_F_init_26 rfl rfl ?_
  refine jx_lload d_F_init_27 rfl ?_
  refine jx_putf d_F_init_29 pf_F_26 (jx_up_s _ _ _) (Nat.le_of_ble_eq_true rfl) rfl rfl ?_
  exact jx_vret d_F_init_32 rfl (by omega) (by omega) (by rw [jx_up_c _ _ _ hne]; simp only [jx_up_u]; exact k)
end CF2
