/-! PART 36: the law's helpers: out of a method's contract, that of the helper around it. By wip/whole/gen/helpers.py -/
section HLP
variable {G : jx_G} {d a o sz mc ms ci : Nat} {fs : List Value} {M : jx_H} {Z : Option Value → jx_H → Nat → Prop}
theorem c_L_fold {p0 : Int32} {p1 : Int64} {p2 : Int64} (hd : 0 < d) (ha : M a = some (.inl (4, fs))) (ct : ∀ (Z2 : Option Value → jx_H → Nat → Prop) (ZX2 : String → jx_H → Nat → Prop), (∀ (x : Int32) (f : Nat → Int64) M' sz', M' o = some (kf_la 1 f) → Z (some (.int 0)) (jx_up M' o (kf_la 1 (vp_updL f 0 x.toInt64))) sz' → Z2 (some (.int x)) M' sz') → (∀ M' sz', Z (some (.int 1)) M' sz' → ZX2 xIA M' sz') → (∀ M' sz', Z (some (.int 2)) M' sz' → ZX2 xIS M' sz') → jx_Cx md_K_fold G (d - 1) [.ref a, .int p0, .long p1, .long p2] M sz mc ms Z2 ZX2) : jx_Ch md_L_fold mh_L_fold G d [.ref a, .int p0, .long p1, .long p2, .ref o] M sz mc ms Z := by
  refine jx_enth rfl (Nat.le_of_ble_eq_true rfl) (l := [some (.ref a), some (.int p0), some (.long p1), none, some (.long p2), none, some (.ref o), none]) (by simp [jx_le, jx_eas, Value.category]) (fun hlt => ?_)
  refine jx_aload d_L_fold_0 rfl ?_
  refine jx_iconst (v := 0) d_L_fold_2 (by decide) ?_
  refine jx_aload_n (i := 0) d_L_fold_3 rfl rfl ?_
  refine jx_iload_n (i := 1) d_L_fold_4 rfl rfl ?_
  refine jx_lload_n (i := 2) d_L_fold_5 rfl rfl ?_
  refine jx_lload d_L_fold_6 rfl ?_
  refine jx_callX (As := [.int p0, .long p1, .long p2]) d_L_fold_8 mv_L_7 ha rfl (jx_ok_rm (by omega) (Nat.le_of_ble_eq_true rfl)) rfl rfl (Nat.le_of_ble_eq_true rfl) (jx_rmc (by omega)) (jx_rms (by omega)) (ct _ _ ?_ ?_ ?_)
  · intro x f M1 sz1 hf hz
    try dsimp only [Option.toList, List.cons_append, List.nil_append]
    refine jx_i2l d_L_fold_11 ?_
    refine jx_last (t0 := 1) d_L_fold_12 hf rfl (vp_in_nI (n := 0) (N := 1) (by omega) (by omega)) ?_
    refine jx_goto (tgt := 24) d_L_fold_13 (by decide) ?_
    refine jx_iconst (v := 0) d_L_fold_24 (by decide) ?_
    exact jx_iret d_L_fold_25 rfl (by omega) (by omega) hz
  · intro M1 sz1 hz
    refine jx_catch (nm := xIA) [] (0, 13, 16, 13) [(0, 13, 20, 15)] rfl (fun z hz => by cases hz) (by decide) (by decide) nk_L_13 nx_IA (fun q => ?_)
    dsimp only
    refine jx_astore d_L_fold_16 (Nat.le_of_ble_eq_true rfl) (jx_e8_7 (by trivial)) ?_
    refine jx_iconst (v := 1) d_L_fold_18 (by decide) ?_
    exact jx_iret d_L_fold_19 rfl (by omega) (by omega) hz
  · intro M1 sz1 hz
    refine jx_catch (nm := xIS) [(0, 13, 16, 13)] (0, 13, 20, 15) [] rfl (fun z hz => by rw [List.mem_singleton.mp hz]; exact ⟨by decide, xIA, nk_L_13, by decide⟩) (by decide) (by decide) nk_L_15 nx_IS (fun q => ?_)
    dsimp only
    refine jx_astore d_L_fold_20 (Nat.le_of_ble_eq_true rfl) (jx_e8_7 (by trivial)) ?_
    refine jx_iconst (v := 2) d_L_fold_22 (by decide) ?_
    exact jx_iret d_L_fold_23 rfl (by omega) (by omega) hz
theorem c_L_failsAt {p0 : Int32} {p1 : Int64} (hd : 0 < d) (ha : M a = some (.inl (4, fs))) (ct : ∀ (Z2 : Option Value → jx_H → Nat → Prop) (ZX2 : String → jx_H → Nat → Prop), (∀ (x : Int32) (f : Nat → Int64) M' sz', M' o = some (kf_la 1 f) → Z (some (.int 0)) (jx_up M' o (kf_la 1 (vp_updL f 0 x.toInt64))) sz' → Z2 (some (.int x)) M' sz') → (∀ M' sz', Z (some (.int 1)) M' sz' → ZX2 xIO M' sz') → (∀ M' sz', Z (some (.int 2)) M' sz' → ZX2 xIS M' sz') → jx_Cx md_K_failsAt G (d - 1) [.ref a, .int p0, .long p1] M sz mc ms Z2 ZX2) : jx_Ch md_L_failsAt mh_L_failsAt G d [.ref a, .int p0, .long p1, .ref o] M sz mc ms Z := by
  refine jx_enth rfl (Nat.le_of_ble_eq_true rfl) (l := [some (.ref a), some (.int p0), some (.long p1), none, some (.ref o), none]) (by simp [jx_le, jx_eas, Value.category]) (fun hlt => ?_)
  refine jx_aload d_L_failsAt_0 rfl ?_
  refine jx_iconst (v := 0) d_L_failsAt_2 (by decide) ?_
  refine jx_aload_n (i := 0) d_L_failsAt_3 rfl rfl ?_
  refine jx_iload_n (i := 1) d_L_failsAt_4 rfl rfl ?_
  refine jx_lload_n (i := 2) d_L_failsAt_5 rfl rfl ?_
  refine jx_callX (As := [.int p0, .long p1]) d_L_failsAt_6 mv_L_17 ha rfl (jx_ok_rm (by omega) (Nat.le_of_ble_eq_true rfl)) rfl rfl (Nat.le_of_ble_eq_true rfl) (jx_rmc (by omega)) (jx_rms (by omega)) (ct _ _ ?_ ?_ ?_)
  · intro x f M1 sz1 hf hz
    try dsimp only [Option.toList, List.cons_append, List.nil_append]
    refine jx_i2l d_L_failsAt_9 ?_
    refine jx_last (t0 := 1) d_L_failsAt_10 hf rfl (vp_in_nI (n := 0) (N := 1) (by omega) (by omega)) ?_
    refine jx_goto (tgt := 22) d_L_failsAt_11 (by decide) ?_
    refine jx_iconst (v := 0) d_L_failsAt_22 (by decide) ?_
    exact jx_iret d_L_failsAt_23 rfl (by omega) (by omega) hz
  · intro M1 sz1 hz
    refine jx_catch (nm := xIO) [] (0, 11, 14, 21) [(0, 11, 18, 15)] rfl (fun z hz => by cases hz) (by decide) (by decide) nk_L_21 nx_IO (fun q => ?_)
    dsimp only
    refine jx_astore d_L_failsAt_14 (Nat.le_of_ble_eq_true rfl) (jx_e6_5 (by trivial)) ?_
    refine jx_iconst (v := 1) d_L_failsAt_16 (by decide) ?_
    exact jx_iret d_L_failsAt_17 rfl (by omega) (by omega) hz
  · intro M1 sz1 hz
    refine jx_catch (nm := xIS) [(0, 11, 14, 21)] (0, 11, 18, 15) [] rfl (fun z hz => by rw [List.mem_singleton.mp hz]; exact ⟨by decide, xIO, nk_L_21, by decide⟩) (by decide) (by decide) nk_L_15 nx_IS (fun q => ?_)
    dsimp only
    refine jx_astore d_L_failsAt_18 (Nat.le_of_ble_eq_true rfl) (jx_e6_5 (by trivial)) ?_
    refine jx_iconst (v := 2) d_L_failsAt_20 (by decide) ?_
    exact jx_iret d_L_failsAt_21 rfl (by omega) (by omega) hz
theorem c_L_rule {p0 : Int32} {p1 : Int32} (hd : 0 < d) (ha : M a = some (.inl (4, fs))) (ct : ∀ (Z2 : Option Value → jx_H → Nat → Prop) (ZX2 : String → jx_H → Nat → Prop), (∀ (x : Int32) (f : Nat → Int64) M' sz', M' o = some (kf_la 1 f) → Z (some (.int 0)) (jx_up M' o (kf_la 1 (vp_updL f 0 x.toInt64))) sz' → Z2 (some (.int x)) M' sz') → (∀ M' sz', Z (some (.int 1)) M' sz' → ZX2 xIA M' sz') → jx_Cx md_K_rule G (d - 1) [.ref a, .int p0, .int p1] M sz mc ms Z2 ZX2) : jx_Ch md_L_rule mh_L_rule G d [.ref a, .int p0, .int p1, .ref o] M sz mc ms Z := by
  refine jx_enth rfl (Nat.le_of_ble_eq_true rfl) (l := [some (.ref a), some (.int p0), some (.int p1), some (.ref o), none]) (by simp [jx_le, jx_eas, Value.category]) (fun hlt => ?_)
  refine jx_aload_n (i := 3) d_L_rule_0 rfl rfl ?_
  refine jx_iconst (v := 0) d_L_rule_1 (by decide) ?_
  refine jx_aload_n (i := 0) d_L_rule_2 rfl rfl ?_
  refine jx_iload_n (i := 1) d_L_rule_3 rfl rfl ?_
  refine jx_iload_n (i := 2) d_L_rule_4 rfl rfl ?_
  refine jx_callX (As := [.int p0, .int p1]) d_L_rule_5 mv_L_23 ha rfl (jx_ok_rm (by omega) (Nat.le_of_ble_eq_true rfl)) rfl rfl (Nat.le_of_ble_eq_true rfl) (jx_rmc (by omega)) (jx_rms (by omega)) (ct _ _ ?_ ?_)
  · intro x f M1 sz1 hf hz
    try dsimp only [Option.toList, List.cons_append, List.nil_append]
    refine jx_i2l d_L_rule_8 ?_
    refine jx_last (t0 := 1) d_L_rule_9 hf rfl (vp_in_nI (n := 0) (N := 1) (by omega) (by omega)) ?_
    refine jx_goto (tgt := 17) d_L_rule_10 (by decide) ?_
    refine jx_iconst (v := 0) d_L_rule_17 (by decide) ?_
    exact jx_iret d_L_rule_18 rfl (by omega) (by omega) hz
  · intro M1 sz1 hz
    refine jx_catch (nm := xIA) [] (0, 10, 13, 13) [] rfl (fun z hz => by cases hz) (by decide) (by decide) nk_L_13 nx_IA (fun q => ?_)
    dsimp only
    refine jx_astore d_L_rule_13 (Nat.le_of_ble_eq_true rfl) (jx_e5_4 (by trivial)) ?_
    refine jx_iconst (v := 1) d_L_rule_15 (by decide) ?_
    exact jx_iret d_L_rule_16 rfl (by omega) (by omega) hz
theorem c_L_row {p0 : Int64} {p1 : Int64} {p2 : Int64} (hd : 0 < d) (ha : M a = some (.inl (4, fs))) (ct : ∀ (Z2 : Option Value → jx_H → Nat → Prop) (ZX2 : String → jx_H → Nat → Prop), (∀ (x : Int32) (f : Nat → Int64) M' sz', M' o = some (kf_la 1 f) → Z (some (.int 0)) (jx_up M' o (kf_la 1 (vp_updL f 0 x.toInt64))) sz' → Z2 (some (.int x)) M' sz') → (∀ M' sz', Z (some (.int 1)) M' sz' → ZX2 xIA M' sz') → (∀ M' sz', Z (some (.int 2)) M' sz' → ZX2 xIS M' sz') → jx_Cx md_K_row G (d - 1) [.ref a, .long p0, .long p1, .long p2] M sz mc ms Z2 ZX2) : jx_Ch md_L_row mh_L_row G d [.ref a, .long p0, .long p1, .long p2, .ref o] M sz mc ms Z := by
  refine jx_enth rfl (Nat.le_of_ble_eq_true rfl) (l := [some (.ref a), some (.long p0), none, some (.long p1), none, some (.long p2), none, some (.ref o), none]) (by simp [jx_le, jx_eas, Value.category]) (fun hlt => ?_)
  refine jx_aload d_L_row_0 rfl ?_
  refine jx_iconst (v := 0) d_L_row_2 (by decide) ?_
  refine jx_aload_n (i := 0) d_L_row_3 rfl rfl ?_
  refine jx_lload_n (i := 1) d_L_row_4 rfl rfl ?_
  refine jx_lload_n (i := 3) d_L_row_5 rfl rfl ?_
  refine jx_lload d_L_row_6 rfl ?_
  refine jx_callX (As := [.long p0, .long p1, .long p2]) d_L_row_8 mv_L_27 ha rfl (jx_ok_rm (by omega) (Nat.le_of_ble_eq_true rfl)) rfl rfl (Nat.le_of_ble_eq_true rfl) (jx_rmc (by omega)) (jx_rms (by omega)) (ct _ _ ?_ ?_ ?_)
  · intro x f M1 sz1 hf hz
    try dsimp only [Option.toList, List.cons_append, List.nil_append]
    refine jx_i2l d_L_row_11 ?_
    refine jx_last (t0 := 1) d_L_row_12 hf rfl (vp_in_nI (n := 0) (N := 1) (by omega) (by omega)) ?_
    refine jx_goto (tgt := 24) d_L_row_13 (by decide) ?_
    refine jx_iconst (v := 0) d_L_row_24 (by decide) ?_
    exact jx_iret d_L_row_25 rfl (by omega) (by omega) hz
  · intro M1 sz1 hz
    refine jx_catch (nm := xIA) [] (0, 13, 16, 13) [(0, 13, 20, 15)] rfl (fun z hz => by cases hz) (by decide) (by decide) nk_L_13 nx_IA (fun q => ?_)
    dsimp only
    refine jx_astore d_L_row_16 (Nat.le_of_ble_eq_true rfl) (jx_e9_8 (by trivial)) ?_
    refine jx_iconst (v := 1) d_L_row_18 (by decide) ?_
    exact jx_iret d_L_row_19 rfl (by omega) (by omega) hz
  · intro M1 sz1 hz
    refine jx_catch (nm := xIS) [(0, 13, 16, 13)] (0, 13, 20, 15) [] rfl (fun z hz => by rw [List.mem_singleton.mp hz]; exact ⟨by decide, xIA, nk_L_13, by decide⟩) (by decide) (by decide) nk_L_15 nx_IS (fun q => ?_)
    dsimp only
    refine jx_astore d_L_row_20 (Nat.le_of_ble_eq_true rfl) (jx_e9_8 (by trivial)) ?_
    refine jx_iconst (v := 2) d_L_row_22 (by decide) ?_
    exact jx_iret d_L_row_23 rfl (by omega) (by omega) hz
theorem c_L_resume {p0 : Int64} (hd : 0 < d) (ha : M a = some (.inl (4, fs))) (ct : ∀ (Z2 : Option Value → jx_H → Nat → Prop) (ZX2 : String → jx_H → Nat → Prop), (∀ M' sz', Z (some (.int 0)) M' sz' → Z2 none M' sz') → (∀ M' sz', Z (some (.int 1)) M' sz' → ZX2 xIS M' sz') → jx_Cx md_K_resume G (d - 1) [.ref a, .long p0] M sz mc ms Z2 ZX2) : jx_Ch md_L_resume mh_L_resume G d [.ref a, .long p0] M sz mc ms Z := by
  refine jx_enth rfl (Nat.le_of_ble_eq_true rfl) (l := [some (.ref a), some (.long p0), none, none]) (by simp [jx_le, jx_eas, Value.category]) (fun hlt => ?_)
  refine jx_aload_n (i := 0) d_L_resume_0 rfl rfl ?_
  refine jx_lload_n (i := 1) d_L_resume_1 rfl rfl ?_
  refine jx_callX (As := [.long p0]) d_L_resume_2 mv_L_31 ha rfl (jx_ok_rm (by omega) (Nat.le_of_ble_eq_true rfl)) rfl rfl (Nat.le_of_ble_eq_true rfl) (jx_rmc (by omega)) (jx_rms (by omega)) (ct _ _ ?_ ?_)
  · intro M1 sz1 hz
    try dsimp only [Option.toList, List.cons_append, List.nil_append]
    refine jx_goto (tgt := 11) d_L_resume_5 (by decide) ?_
    refine jx_iconst (v := 0) d_L_resume_11 (by decide) ?_
    exact jx_iret d_L_resume_12 rfl (by omega) (by omega) hz
  · intro M1 sz1 hz
    refine jx_catch (nm := xIS) [] (0, 5, 8, 15) [] rfl (fun z hz => by cases hz) (by decide) (by decide) nk_L_15 nx_IS (fun q => ?_)
    dsimp only
    refine jx_astore_n (i := 3) d_L_resume_8 rfl (Nat.le_of_ble_eq_true rfl) (jx_e4_3 (by trivial)) ?_
    refine jx_iconst (v := 1) d_L_resume_9 (by decide) ?_
    exact jx_iret d_L_resume_10 rfl (by omega) (by omega) hz
theorem c_L_state {p0 : Int64} {p1 : Int32} (hd : 0 < d) (ha : M a = some (.inl (4, fs))) (ct : ∀ (Z2 : Option Value → jx_H → Nat → Prop) (ZX2 : String → jx_H → Nat → Prop), (∀ (x : Int64) (f : Nat → Int64) M' sz', M' o = some (kf_la 1 f) → Z (some (.int 0)) (jx_up M' o (kf_la 1 (vp_updL f 0 x))) sz' → Z2 (some (.long x)) M' sz') → (∀ M' sz', Z (some (.int 1)) M' sz' → ZX2 xIO M' sz') → jx_Cx md_K_state G (d - 1) [.ref a, .long p0, .int p1] M sz mc ms Z2 ZX2) : jx_Ch md_L_state mh_L_state G d [.ref a, .long p0, .int p1, .ref o] M sz mc ms Z := by
  refine jx_enth rfl (Nat.le_of_ble_eq_true rfl) (l := [some (.ref a), some (.long p0), none, some (.int p1), some (.ref o), none]) (by simp [jx_le, jx_eas, Value.category]) (fun hlt => ?_)
  refine jx_aload d_L_state_0 rfl ?_
  refine jx_iconst (v := 0) d_L_state_2 (by decide) ?_
  refine jx_aload_n (i := 0) d_L_state_3 rfl rfl ?_
  refine jx_lload_n (i := 1) d_L_state_4 rfl rfl ?_
  refine jx_iload_n (i := 3) d_L_state_5 rfl rfl ?_
  refine jx_callX (As := [.long p0, .int p1]) d_L_state_6 mv_L_35 ha rfl (jx_ok_rm (by omega) (Nat.le_of_ble_eq_true rfl)) rfl rfl (Nat.le_of_ble_eq_true rfl) (jx_rmc (by omega)) (jx_rms (by omega)) (ct _ _ ?_ ?_)
  · intro x f M1 sz1 hf hz
    try dsimp only [Option.toList, List.cons_append, List.nil_append]
    refine jx_last (t0 := 1) d_L_state_9 hf rfl (vp_in_nI (n := 0) (N := 1) (by omega) (by omega)) ?_
    refine jx_goto (tgt := 17) d_L_state_10 (by decide) ?_
    refine jx_iconst (v := 0) d_L_state_17 (by decide) ?_
    exact jx_iret d_L_state_18 rfl (by omega) (by omega) hz
  · intro M1 sz1 hz
    refine jx_catch (nm := xIO) [] (0, 10, 13, 21) [] rfl (fun z hz => by cases hz) (by decide) (by decide) nk_L_21 nx_IO (fun q => ?_)
    dsimp only
    refine jx_astore d_L_state_13 (Nat.le_of_ble_eq_true rfl) (jx_e6_5 (by trivial)) ?_
    refine jx_iconst (v := 1) d_L_state_15 (by decide) ?_
    exact jx_iret d_L_state_16 rfl (by omega) (by omega) hz
theorem c_L_key {p0 : Int64} {p1 : Int32} (hd : 0 < d) (ha : M a = some (.inl (4, fs))) (ct : ∀ (Z2 : Option Value → jx_H → Nat → Prop) (ZX2 : String → jx_H → Nat → Prop), (∀ (x : Int32) (f : Nat → Int64) M' sz', M' o = some (kf_la 1 f) → Z (some (.int 0)) (jx_up M' o (kf_la 1 (vp_updL f 0 x.toInt64))) sz' → Z2 (some (.int x)) M' sz') → (∀ M' sz', Z (some (.int 1)) M' sz' → ZX2 xIA M' sz') → jx_Cx md_K_key G (d - 1) [.ref a, .long p0, .int p1] M sz mc ms Z2 ZX2) : jx_Ch md_L_key mh_L_key G d [.ref a, .long p0, .int p1, .ref o] M sz mc ms Z := by
  refine jx_enth rfl (Nat.le_of_ble_eq_true rfl) (l := [some (.ref a), some (.long p0), none, some (.int p1), some (.ref o), none]) (by simp [jx_le, jx_eas, Value.category]) (fun hlt => ?_)
  refine jx_aload d_L_key_0 rfl ?_
  refine jx_iconst (v := 0) d_L_key_2 (by decide) ?_
  refine jx_aload_n (i := 0) d_L_key_3 rfl rfl ?_
  refine jx_lload_n (i := 1) d_L_key_4 rfl rfl ?_
  refine jx_iload_n (i := 3) d_L_key_5 rfl rfl ?_
  refine jx_callX (As := [.long p0, .int p1]) d_L_key_6 mv_L_39 ha rfl (jx_ok_rm (by omega) (Nat.le_of_ble_eq_true rfl)) rfl rfl (Nat.le_of_ble_eq_true rfl) (jx_rmc (by omega)) (jx_rms (by omega)) (ct _ _ ?_ ?_)
  · intro x f M1 sz1 hf hz
    try dsimp only [Option.toList, List.cons_append, List.nil_append]
    refine jx_i2l d_L_key_9 ?_
    refine jx_last (t0 := 1) d_L_key_10 hf rfl (vp_in_nI (n := 0) (N := 1) (by omega) (by omega)) ?_
    refine jx_goto (tgt := 18) d_L_key_11 (by decide) ?_
    refine jx_iconst (v := 0) d_L_key_18 (by decide) ?_
    exact jx_iret d_L_key_19 rfl (by omega) (by omega) hz
  · intro M1 sz1 hz
    refine jx_catch (nm := xIA) [] (0, 11, 14, 13) [] rfl (fun z hz => by cases hz) (by decide) (by decide) nk_L_13 nx_IA (fun q => ?_)
    dsimp only
    refine jx_astore d_L_key_14 (Nat.le_of_ble_eq_true rfl) (jx_e6_5 (by trivial)) ?_
    refine jx_iconst (v := 1) d_L_key_16 (by decide) ?_
    exact jx_iret d_L_key_17 rfl (by omega) (by omega) hz
theorem c_L_rowOf {p0 : Int64} {p1 : Int32} {p2 : Int32} (hd : 0 < d) (ha : M a = some (.inl (4, fs))) (ct : ∀ (Z2 : Option Value → jx_H → Nat → Prop) (ZX2 : String → jx_H → Nat → Prop), (∀ (x : Int64) (f : Nat → Int64) M' sz', M' o = some (kf_la 1 f) → Z (some (.int 0)) (jx_up M' o (kf_la 1 (vp_updL f 0 x))) sz' → Z2 (some (.long x)) M' sz') → (∀ M' sz', Z (some (.int 1)) M' sz' → ZX2 xIO M' sz') → jx_Cx md_K_rowOf G (d - 1) [.ref a, .long p0, .int p1, .int p2] M sz mc ms Z2 ZX2) : jx_Ch md_L_rowOf mh_L_rowOf G d [.ref a, .long p0, .int p1, .int p2, .ref o] M sz mc ms Z := by
  refine jx_enth rfl (Nat.le_of_ble_eq_true rfl) (l := [some (.ref a), some (.long p0), none, some (.int p1), some (.int p2), some (.ref o), none]) (by simp [jx_le, jx_eas, Value.category]) (fun hlt => ?_)
  refine jx_aload d_L_rowOf_0 rfl ?_
  refine jx_iconst (v := 0) d_L_rowOf_2 (by decide) ?_
  refine jx_aload_n (i := 0) d_L_rowOf_3 rfl rfl ?_
  refine jx_lload_n (i := 1) d_L_rowOf_4 rfl rfl ?_
  refine jx_iload_n (i := 3) d_L_rowOf_5 rfl rfl ?_
  refine jx_iload d_L_rowOf_6 rfl ?_
  refine jx_callX (As := [.long p0, .int p1, .int p2]) d_L_rowOf_8 mv_L_43 ha rfl (jx_ok_rm (by omega) (Nat.le_of_ble_eq_true rfl)) rfl rfl (Nat.le_of_ble_eq_true rfl) (jx_rmc (by omega)) (jx_rms (by omega)) (ct _ _ ?_ ?_)
  · intro x f M1 sz1 hf hz
    try dsimp only [Option.toList, List.cons_append, List.nil_append]
    refine jx_last (t0 := 1) d_L_rowOf_11 hf rfl (vp_in_nI (n := 0) (N := 1) (by omega) (by omega)) ?_
    refine jx_goto (tgt := 19) d_L_rowOf_12 (by decide) ?_
    refine jx_iconst (v := 0) d_L_rowOf_19 (by decide) ?_
    exact jx_iret d_L_rowOf_20 rfl (by omega) (by omega) hz
  · intro M1 sz1 hz
    refine jx_catch (nm := xIO) [] (0, 12, 15, 21) [] rfl (fun z hz => by cases hz) (by decide) (by decide) nk_L_21 nx_IO (fun q => ?_)
    dsimp only
    refine jx_astore d_L_rowOf_15 (Nat.le_of_ble_eq_true rfl) (jx_e7_6 (by trivial)) ?_
    refine jx_iconst (v := 1) d_L_rowOf_17 (by decide) ?_
    exact jx_iret d_L_rowOf_18 rfl (by omega) (by omega) hz
theorem c_L_aside {p0 : Int32} {p1 : Int32} (hd : 0 < d) (ha : M a = some (.inl (4, fs))) (ct : ∀ (Z2 : Option Value → jx_H → Nat → Prop) (ZX2 : String → jx_H → Nat → Prop), (∀ (x : Int64) (f : Nat → Int64) M' sz', M' o = some (kf_la 1 f) → Z (some (.int 0)) (jx_up M' o (kf_la 1 (vp_updL f 0 x))) sz' → Z2 (some (.long x)) M' sz') → (∀ M' sz', Z (some (.int 1)) M' sz' → ZX2 xIO M' sz') → jx_Cx md_K_aside G (d - 1) [.ref a, .int p0, .int p1] M sz mc ms Z2 ZX2) : jx_Ch md_L_aside mh_L_aside G d [.ref a, .int p0, .int p1, .ref o] M sz mc ms Z := by
  refine jx_enth rfl (Nat.le_of_ble_eq_true rfl) (l := [some (.ref a), some (.int p0), some (.int p1), some (.ref o), none]) (by simp [jx_le, jx_eas, Value.category]) (fun hlt => ?_)
  refine jx_aload_n (i := 3) d_L_aside_0 rfl rfl ?_
  refine jx_iconst (v := 0) d_L_aside_1 (by decide) ?_
  refine jx_aload_n (i := 0) d_L_aside_2 rfl rfl ?_
  refine jx_iload_n (i := 1) d_L_aside_3 rfl rfl ?_
  refine jx_iload_n (i := 2) d_L_aside_4 rfl rfl ?_
  refine jx_callX (As := [.int p0, .int p1]) d_L_aside_5 mv_L_47 ha rfl (jx_ok_rm (by omega) (Nat.le_of_ble_eq_true rfl)) rfl rfl (Nat.le_of_ble_eq_true rfl) (jx_rmc (by omega)) (jx_rms (by omega)) (ct _ _ ?_ ?_)
  · intro x f M1 sz1 hf hz
    try dsimp only [Option.toList, List.cons_append, List.nil_append]
    refine jx_last (t0 := 1) d_L_aside_8 hf rfl (vp_in_nI (n := 0) (N := 1) (by omega) (by omega)) ?_
    refine jx_goto (tgt := 16) d_L_aside_9 (by decide) ?_
    refine jx_iconst (v := 0) d_L_aside_16 (by decide) ?_
    exact jx_iret d_L_aside_17 rfl (by omega) (by omega) hz
  · intro M1 sz1 hz
    refine jx_catch (nm := xIO) [] (0, 9, 12, 21) [] rfl (fun z hz => by cases hz) (by decide) (by decide) nk_L_21 nx_IO (fun q => ?_)
    dsimp only
    refine jx_astore d_L_aside_12 (Nat.le_of_ble_eq_true rfl) (jx_e5_4 (by trivial)) ?_
    refine jx_iconst (v := 1) d_L_aside_14 (by decide) ?_
    exact jx_iret d_L_aside_15 rfl (by omega) (by omega) hz
theorem c_L_output {p0 : Int32} {p1 : Int32} (hd : 0 < d) (ha : M a = some (.inl (4, fs))) (ct : ∀ (Z2 : Option Value → jx_H → Nat → Prop) (ZX2 : String → jx_H → Nat → Prop), (∀ (x : Int64) (f : Nat → Int64) M' sz', M' o = some (kf_la 1 f) → Z (some (.int 0)) (jx_up M' o (kf_la 1 (vp_updL f 0 x))) sz' → Z2 (some (.long x)) M' sz') → (∀ M' sz', Z (some (.int 1)) M' sz' → ZX2 xIO M' sz') → jx_Cx md_K_output G (d - 1) [.ref a, .int p0, .int p1] M sz mc ms Z2 ZX2) : jx_Ch md_L_output mh_L_output G d [.ref a, .int p0, .int p1, .ref o] M sz mc ms Z := by
  refine jx_enth rfl (Nat.le_of_ble_eq_true rfl) (l := [some (.ref a), some (.int p0), some (.int p1), some (.ref o), none]) (by simp [jx_le, jx_eas, Value.category]) (fun hlt => ?_)
  refine jx_aload_n (i := 3) d_L_output_0 rfl rfl ?_
  refine jx_iconst (v := 0) d_L_output_1 (by decide) ?_
  refine jx_aload_n (i := 0) d_L_output_2 rfl rfl ?_
  refine jx_iload_n (i := 1) d_L_output_3 rfl rfl ?_
  refine jx_iload_n (i := 2) d_L_output_4 rfl rfl ?_
  refine jx_callX (As := [.int p0, .int p1]) d_L_output_5 mv_L_51 ha rfl (jx_ok_rm (by omega) (Nat.le_of_ble_eq_true rfl)) rfl rfl (Nat.le_of_ble_eq_true rfl) (jx_rmc (by omega)) (jx_rms (by omega)) (ct _ _ ?_ ?_)
  · intro x f M1 sz1 hf hz
    try dsimp only [Option.toList, List.cons_append, List.nil_append]
    refine jx_last (t0 := 1) d_L_output_8 hf rfl (vp_in_nI (n := 0) (N := 1) (by omega) (by omega)) ?_
    refine jx_goto (tgt := 16) d_L_output_9 (by decide) ?_
    refine jx_iconst (v := 0) d_L_output_16 (by decide) ?_
    exact jx_iret d_L_output_17 rfl (by omega) (by omega) hz
  · intro M1 sz1 hz
    refine jx_catch (nm := xIO) [] (0, 9, 12, 21) [] rfl (fun z hz => by cases hz) (by decide) (by decide) nk_L_21 nx_IO (fun q => ?_)
    dsimp only
    refine jx_astore d_L_output_12 (Nat.le_of_ble_eq_true rfl) (jx_e5_4 (by trivial)) ?_
    refine jx_iconst (v := 1) d_L_output_14 (by decide) ?_
    exact jx_iret d_L_output_15 rfl (by omega) (by omega) hz
theorem c_L_watermark  (hd : 0 < d) (ha : M a = some (.inl (4, fs))) (ct : ∀ (Z2 : Option Value → jx_H → Nat → Prop) (ZX2 : String → jx_H → Nat → Prop), (∀ (x : Int64) (f : Nat → Int64) M' sz', M' o = some (kf_la 1 f) → Z (some (.int 0)) (jx_up M' o (kf_la 1 (vp_updL f 0 x))) sz' → Z2 (some (.long x)) M' sz') → (∀ M' sz', Z (some (.int 1)) M' sz' → ZX2 xIS M' sz') → jx_Cx md_K_watermark G (d - 1) [.ref a] M sz mc ms Z2 ZX2) : jx_Ch md_L_watermark mh_L_watermark G d [.ref a, .ref o] M sz mc ms Z := by
  refine jx_enth rfl (Nat.le_of_ble_eq_true rfl) (l := [some (.ref a), some (.ref o), none]) (by simp [jx_le, jx_eas, Value.category]) (fun hlt => ?_)
  refine jx_aload_n (i := 1) d_L_watermark_0 rfl rfl ?_
  refine jx_iconst (v := 0) d_L_watermark_1 (by decide) ?_
  refine jx_aload_n (i := 0) d_L_watermark_2 rfl rfl ?_
  refine jx_callX (As := []) d_L_watermark_3 mv_L_54 ha rfl (jx_ok_rm (by omega) (Nat.le_of_ble_eq_true rfl)) rfl rfl (Nat.le_of_ble_eq_true rfl) (jx_rmc (by omega)) (jx_rms (by omega)) (ct _ _ ?_ ?_)
  · intro x f M1 sz1 hf hz
    try dsimp only [Option.toList, List.cons_append, List.nil_append]
    refine jx_last (t0 := 1) d_L_watermark_6 hf rfl (vp_in_nI (n := 0) (N := 1) (by omega) (by omega)) ?_
    refine jx_goto (tgt := 13) d_L_watermark_7 (by decide) ?_
    refine jx_iconst (v := 0) d_L_watermark_13 (by decide) ?_
    exact jx_iret d_L_watermark_14 rfl (by omega) (by omega) hz
  · intro M1 sz1 hz
    refine jx_catch (nm := xIS) [] (0, 7, 10, 15) [] rfl (fun z hz => by cases hz) (by decide) (by decide) nk_L_15 nx_IS (fun q => ?_)
    dsimp only
    refine jx_astore_n (i := 2) d_L_watermark_10 rfl (Nat.le_of_ble_eq_true rfl) (jx_e3_2 (by trivial)) ?_
    refine jx_iconst (v := 1) d_L_watermark_11 (by decide) ?_
    exact jx_iret d_L_watermark_12 rfl (by omega) (by omega) hz
theorem c_L_told {p0 : Int32} (hd : 0 < d) (ha : M a = some (.inl (4, fs))) (ct : ∀ (Z2 : Option Value → jx_H → Nat → Prop) (ZX2 : String → jx_H → Nat → Prop), (∀ (x : Int32) (f : Nat → Int64) M' sz', M' o = some (kf_la 1 f) → Z (some (.int 0)) (jx_up M' o (kf_la 1 (vp_updL f 0 x.toInt64))) sz' → Z2 (some (.int x)) M' sz') → (∀ M' sz', Z (some (.int 1)) M' sz' → ZX2 xIA M' sz') → jx_Cx md_K_told G (d - 1) [.ref a, .int p0] M sz mc ms Z2 ZX2) : jx_Ch md_L_told mh_L_told G d [.ref a, .int p0, .ref o] M sz mc ms Z := by
  refine jx_enth rfl (Nat.le_of_ble_eq_true rfl) (l := [some (.ref a), some (.int p0), some (.ref o), none]) (by simp [jx_le, jx_eas, Value.category]) (fun hlt => ?_)
  refine jx_aload_n (i := 2) d_L_told_0 rfl rfl ?_
  refine jx_iconst (v := 0) d_L_told_1 (by decide) ?_
  refine jx_aload_n (i := 0) d_L_told_2 rfl rfl ?_
  refine jx_iload_n (i := 1) d_L_told_3 rfl rfl ?_
  refine jx_callX (As := [.int p0]) d_L_told_4 mv_L_58 ha rfl (jx_ok_rm (by omega) (Nat.le_of_ble_eq_true rfl)) rfl rfl (Nat.le_of_ble_eq_true rfl) (jx_rmc (by omega)) (jx_rms (by omega)) (ct _ _ ?_ ?_)
  · intro x f M1 sz1 hf hz
    try dsimp only [Option.toList, List.cons_append, List.nil_append]
    refine jx_i2l d_L_told_7 ?_
    refine jx_last (t0 := 1) d_L_told_8 hf rfl (vp_in_nI (n := 0) (N := 1) (by omega) (by omega)) ?_
    refine jx_goto (tgt := 15) d_L_told_9 (by decide) ?_
    refine jx_iconst (v := 0) d_L_told_15 (by decide) ?_
    exact jx_iret d_L_told_16 rfl (by omega) (by omega) hz
  · intro M1 sz1 hz
    refine jx_catch (nm := xIA) [] (0, 9, 12, 13) [] rfl (fun z hz => by cases hz) (by decide) (by decide) nk_L_13 nx_IA (fun q => ?_)
    dsimp only
    refine jx_astore_n (i := 3) d_L_told_12 rfl (Nat.le_of_ble_eq_true rfl) (jx_e4_3 (by trivial)) ?_
    refine jx_iconst (v := 1) d_L_told_13 (by decide) ?_
    exact jx_iret d_L_told_14 rfl (by omega) (by omega) hz
theorem c_L_folded {p0 : Int64} (hd : 0 < d) (ha : M a = some (.inl (4, fs))) (ct : ∀ (Z2 : Option Value → jx_H → Nat → Prop) (ZX2 : String → jx_H → Nat → Prop), (∀ (x : Int32) (f : Nat → Int64) M' sz', M' o = some (kf_la 1 f) → Z (some (.int 0)) (jx_up M' o (kf_la 1 (vp_updL f 0 (if x = 0 then 0 else 1)))) sz' → Z2 (some (.int x)) M' sz') → (∀ M' sz', Z (some (.int 1)) M' sz' → ZX2 xIO M' sz') → jx_Cx md_K_folded G (d - 1) [.ref a, .long p0] M sz mc ms Z2 ZX2) : jx_Ch md_L_folded mh_L_folded G d [.ref a, .long p0, .ref o] M sz mc ms Z := by
  refine jx_enth rfl (Nat.le_of_ble_eq_true rfl) (l := [some (.ref a), some (.long p0), none, some (.ref o), none]) (by simp [jx_le, jx_eas, Value.category]) (fun hlt => ?_)
  refine jx_aload_n (i := 3) d_L_folded_0 rfl rfl ?_
  refine jx_iconst (v := 0) d_L_folded_1 (by decide) ?_
  refine jx_aload_n (i := 0) d_L_folded_2 rfl rfl ?_
  refine jx_lload_n (i := 1) d_L_folded_3 rfl rfl ?_
  refine jx_callX (As := [.long p0]) d_L_folded_4 mv_L_62 ha rfl (jx_ok_rm (by omega) (Nat.le_of_ble_eq_true rfl)) rfl rfl (Nat.le_of_ble_eq_true rfl) (jx_rmc (by omega)) (jx_rms (by omega)) (ct _ _ ?_ ?_)
  · intro x f M1 sz1 hf hz
    try dsimp only [Option.toList, List.cons_append, List.nil_append]
    refine jx_if_eq (tgt := 14) d_L_folded_7 (by decide) (fun c7 => ?_) (fun c7 => ?_)
    · refine jx_lconst (v := 0) d_L_folded_14 (by decide) ?_
      refine jx_last (t0 := 1) d_L_folded_15 hf rfl (vp_in_nI (n := 0) (N := 1) (by omega) (by omega)) ?_
      refine jx_goto (tgt := 23) d_L_folded_16 (by decide) ?_
      refine jx_iconst (v := 0) d_L_folded_23 (by decide) ?_
      exact jx_iret d_L_folded_24 rfl (by omega) (by omega) (by rw [if_pos c7] at hz; exact hz)
    · refine jx_lconst (v := 1) d_L_folded_10 (by decide) ?_
      refine jx_goto (tgt := 15) d_L_folded_11 (by decide) ?_
      refine jx_last (t0 := 1) d_L_folded_15 hf rfl (vp_in_nI (n := 0) (N := 1) (by omega) (by omega)) ?_
      refine jx_goto (tgt := 23) d_L_folded_16 (by decide) ?_
      refine jx_iconst (v := 0) d_L_folded_23 (by decide) ?_
      exact jx_iret d_L_folded_24 rfl (by omega) (by omega) (by rw [if_neg c7] at hz; exact hz)
  · intro M1 sz1 hz
    refine jx_catch (nm := xIO) [] (0, 16, 19, 21) [] rfl (fun z hz => by cases hz) (by decide) (by decide) nk_L_21 nx_IO (fun q => ?_)
    dsimp only
    refine jx_astore d_L_folded_19 (Nat.le_of_ble_eq_true rfl) (jx_e5_4 (by trivial)) ?_
    refine jx_iconst (v := 1) d_L_folded_21 (by decide) ?_
    exact jx_iret d_L_folded_22 rfl (by omega) (by omega) hz
theorem c_L_joined {p0 : Int32} (hd : 0 < d) (ha : M a = some (.inl (4, fs))) (ct : ∀ (Z2 : Option Value → jx_H → Nat → Prop) (ZX2 : String → jx_H → Nat → Prop), (∀ (x : Int32) (f : Nat → Int64) M' sz', M' o = some (kf_la 1 f) → Z (some (.int 0)) (jx_up M' o (kf_la 1 (vp_updL f 0 (if x = 0 then 0 else 1)))) sz' → Z2 (some (.int x)) M' sz') → (∀ M' sz', Z (some (.int 1)) M' sz' → ZX2 xIO M' sz') → jx_Cx md_K_joined G (d - 1) [.ref a, .int p0] M sz mc ms Z2 ZX2) : jx_Ch md_L_joined mh_L_joined G d [.ref a, .int p0, .ref o] M sz mc ms Z := by
  refine jx_enth rfl (Nat.le_of_ble_eq_true rfl) (l := [some (.ref a), some (.int p0), some (.ref o), none]) (by simp [jx_le, jx_eas, Value.category]) (fun hlt => ?_)
  refine jx_aload_n (i := 2) d_L_joined_0 rfl rfl ?_
  refine jx_iconst (v := 0) d_L_joined_1 (by decide) ?_
  refine jx_aload_n (i := 0) d_L_joined_2 rfl rfl ?_
  refine jx_iload_n (i := 1) d_L_joined_3 rfl rfl ?_
  refine jx_callX (As := [.int p0]) d_L_joined_4 mv_L_66 ha rfl (jx_ok_rm (by omega) (Nat.le_of_ble_eq_true rfl)) rfl rfl (Nat.le_of_ble_eq_true rfl) (jx_rmc (by omega)) (jx_rms (by omega)) (ct _ _ ?_ ?_)
  · intro x f M1 sz1 hf hz
    try dsimp only [Option.toList, List.cons_append, List.nil_append]
    refine jx_if_eq (tgt := 14) d_L_joined_7 (by decide) (fun c7 => ?_) (fun c7 => ?_)
    · refine jx_lconst (v := 0) d_L_joined_14 (by decide) ?_
      refine jx_last (t0 := 1) d_L_joined_15 hf rfl (vp_in_nI (n := 0) (N := 1) (by omega) (by omega)) ?_
      refine jx_goto (tgt := 22) d_L_joined_16 (by decide) ?_
      refine jx_iconst (v := 0) d_L_joined_22 (by decide) ?_
      exact jx_iret d_L_joined_23 rfl (by omega) (by omega) (by rw [if_pos c7] at hz; exact hz)
    · refine jx_lconst (v := 1) d_L_joined_10 (by decide) ?_
      refine jx_goto (tgt := 15) d_L_joined_11 (by decide) ?_
      refine jx_last (t0 := 1) d_L_joined_15 hf rfl (vp_in_nI (n := 0) (N := 1) (by omega) (by omega)) ?_
      refine jx_goto (tgt := 22) d_L_joined_16 (by decide) ?_
      refine jx_iconst (v := 0) d_L_joined_22 (by decide) ?_
      exact jx_iret d_L_joined_23 rfl (by omega) (by omega) (by rw [if_neg c7] at hz; exact hz)
  · intro M1 sz1 hz
    refine jx_catch (nm := xIO) [] (0, 16, 19, 21) [] rfl (fun z hz => by cases hz) (by decide) (by decide) nk_L_21 nx_IO (fun q => ?_)
    dsimp only
    refine jx_astore_n (i := 3) d_L_joined_19 rfl (Nat.le_of_ble_eq_true rfl) (jx_e4_3 (by trivial)) ?_
    refine jx_iconst (v := 1) d_L_joined_20 (by decide) ?_
    exact jx_iret d_L_joined_21 rfl (by omega) (by omega) hz
end HLP
