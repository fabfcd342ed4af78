/-! PART 19: KeyRows: take, leaveBelow and what they call -/
/-- the steps of the first i rows taken back -/
def sp_tk (kn : Nat) (p : Int64) (vl : Nat → Int64) : Nat → Int64 → Int64
  | 0, s => s
  | i + 1, s => sp_bk kn p (sp_tk kn p vl i s) (vl i)
/-- work added fold by fold -/
def sp_ws (c : Nat → Int32) (wk : Int32) : Nat → Int32
  | 0 => wk
  | f + 1 => sp_ws c wk f + c f
def sp_ut (f : Nat) (nw od : Nat → Int64) : Nat → Int64 := fun q => if q < f then nw q else od q
theorem sp_ut_0 (nw od : Nat → Int64) : sp_ut 0 nw od = od := by
  funext q
  simp [sp_ut]
theorem sp_ut_f (f : Nat) (nw od : Nat → Int64) : sp_ut f nw od f = od f := by simp [sp_ut]
theorem sp_ut_s (f : Nat) (nw od : Nat → Int64) : vp_updL (sp_ut f nw od) f (nw f) = sp_ut (f + 1) nw od := by
  funext q
  unfold vp_updL sp_ut
  by_cases h : q = f
  · subst h
    rw [if_pos rfl, if_pos (by omega)]
  · rw [if_neg h]
    by_cases h2 : q < f
    · rw [if_pos h2, if_pos (by omega)]
    · rw [if_neg h2, if_neg (by omega)]
theorem sp_ut_e {f : Nat} {nw od : Nat → Int64} (h : nw f = od f) : sp_ut (f + 1) nw od = sp_ut f nw od := by
  funext q
  unfold sp_ut
  by_cases h1 : q = f
  · subst h1
    rw [if_pos (by omega), if_neg (by omega), h]
  · by_cases h2 : q < f
    · rw [if_pos h2, if_pos (by omega)]
    · rw [if_neg h2, if_neg (by omega)]
theorem vp_uu (f : Nat → Int64) (k : Nat) (x z : Int64) : vp_updL (vp_updL f k x) k z = vp_updL f k z := by
  funext q
  unfold vp_updL
  by_cases h : q = k <;> simp [h]
theorem vp_us (f : Nat → Int64) (k : Nat) (x : Int64) : vp_updL f k x k = x := by simp [vp_updL]
abbrev sp_fd : Type := Nat → Nat × Int64 × Int64 × Nat × Nat
/-- states when g rows go -/
def sp_n1 (fd : sp_fd) (vl ss : Nat → Int64) (g : Nat) : Nat → Int64 := fun f => if sp_tb (nI (fd f).1) then sp_tk (fd f).1 (fd f).2.2.1 vl g (ss f) else ss f
def sp_n2 (fd : sp_fd) (tm vl ss : Nat → Int64) (n : Nat) : Nat → Int64 := fun f => if sp_tb (nI (fd f).1) then ss f else sp_fo (fd f).1 (fd f).2.1 (fd f).2.2.1 tm vl n
def sp_n3 (fd : sp_fd) (tm vl ss : Nat → Int64) (n pl : Nat) : Nat → Int64 := fun f => if (decide (pl = n - 1) || sp_mj (nI (fd f).1)) then sp_sa (fd f).1 (fd f).2.2.1 tm vl pl (ss f) else sp_fo (fd f).1 (fd f).2.1 (fd f).2.2.1 tm vl n
def sp_c1 (fd : sp_fd) (g : Nat) : Nat → Int32 := fun f => if sp_tb (nI (fd f).1) then nI g else 0
def sp_c2 (fd : sp_fd) (n : Nat) : Nat → Int32 := fun f => if sp_tb (nI (fd f).1) then 0 else nI n
def sp_c3 (fd : sp_fd) (n pl : Nat) : Nat → Int32 := fun f => if (decide (pl = n - 1) || sp_mj (nI (fd f).1)) then 1 else nI n
theorem kf_b_eq0 (b : Bool) : kf_b b = 0 ↔ b = false := by cases b <;> simp [kf_b]
theorem i_a0 (x : Int32) : x + 0 = x := by simp
section CR3
variable {G : jx_G} {d a ta va sa fl far nF sz n g : Nat} {nm t v : Int64} {wk : Int32} {tm vl ss : Nat → Int64} {fo : Nat → Nat} {fd : sp_fd} {M : jx_H} {Z : Option Value → jx_H → Nat → Prop}
theorem c_R_takeBackFirst (hd : 2 < d) (hgn : g ≤ n) (hn : n ≤ 60) (h : kr_H M a ta va sa nm fl nF n wk tm vl ss) (hF : kf_Fs G M fl far nF fo fd) (k : ∀ M', kr_H M' a ta va sa nm fl nF n (sp_ws (sp_c1 fd g) wk nF) tm vl (sp_ut nF (sp_n1 fd vl ss g) ss) → kr_F a ta va sa M M' → Z none M' sz) : jx_Cr md_R_takeBackFirst G d [.ref a, .int (nI g)] M sz 0 0 Z := by
  refine jx_ent rfl (Nat.le_of_ble_eq_true rfl) (l := [some (.ref a), some (.int (nI g)), none, none, none]) (by simp [jx_le, jx_eas, Value.category]) (fun hlt => ?_)
  have hnF := hF.2.1
  have loop : ∀ (j f : Nat) (M1 : jx_H), f + j = nF → kr_H M1 a ta va sa nm fl nF n (sp_ws (sp_c1 fd g) wk f) tm vl (sp_ut f (sp_n1 fd vl ss g) ss) → kr_F a ta va sa M M1 → jx_V md_R_takeBackFirst [] G (jx_rm d 0 0) (jx_Q1 G 0 0 Z) 2 [some (.ref a), some (.int (nI g)), some (.int (nI f)), none, none] [] M1 sz 0 0 := by
    intro j
    induction j with
    | zero =>
      intro f M1 hi h1 hf
      have hF1 := hF.to h hf
      refine jx_iload_n (i := 2) d_R_takeBackFirst_2 rfl rfl ?_
      refine jx_aload_n (i := 0) d_R_takeBackFirst_3 rfl rfl ?_
      refine jx_getf d_R_takeBackFirst_4 gf_R_29 h1.1 rfl ?_
      obtain ⟨mo, hA⟩ := hF1.1.1
      refine jx_callV0 d_R_takeBackFirst_7 mv_R_50 hA rfl (jx_ok_rm (by omega) (Nat.le_of_ble_eq_true rfl)) (Nat.le_of_ble_eq_true rfl) (jx_rmc (by omega)) (jx_rms (by omega)) (c_L_size (d := 0) hF1.1 ?_)
      dsimp only [Option.toList, List.cons_append, List.nil_append]
      refine jx_icmp_ge (tgt := 86) d_R_takeBackFirst_10 (by decide) (fun c10 => ?_) (fun c10 => ?_)
      · exact jx_vret d_R_takeBackFirst_86 rfl (by omega) (by omega) (by
          have e : f = nF := by omega
          subst e
          exact k _ h1 hf)
      · exact absurd ((nI_leI (by omega) (by omega)).mpr (by omega)) c10
    | succ j ih =>
      intro f M1 hi h1 hf
      have hF1 := hF.to h hf
      have hfd := hF1.2.2 f (by omega)
      obtain ⟨mo, hA⟩ := hF1.1.1
      refine jx_iload_n (i := 2) d_R_takeBackFirst_2 rfl rfl ?_
      refine jx_aload_n (i := 0) d_R_takeBackFirst_3 rfl rfl ?_
      refine jx_getf d_R_takeBackFirst_4 gf_R_29 h1.1 rfl ?_
      refine jx_callV0 d_R_takeBackFirst_7 mv_R_50 hA rfl (jx_ok_rm (by omega) (Nat.le_of_ble_eq_true rfl)) (Nat.le_of_ble_eq_true rfl) (jx_rmc (by omega)) (jx_rms (by omega)) (c_L_size (d := 0) hF1.1 ?_)
      dsimp only [Option.toList, List.cons_append, List.nil_append]
      refine jx_icmp_ge (tgt := 86) d_R_takeBackFirst_10 (by decide) (fun c10 => ?_) (fun c10 => ?_)
      · exact absurd ((nI_leI (by omega) (by omega)).mp c10) (by omega)
      · refine jx_aload_n (i := 0) d_R_takeBackFirst_13 rfl rfl ?_
        refine jx_getf d_R_takeBackFirst_14 gf_R_29 h1.1 rfl ?_
        refine jx_iload_n (i := 2) d_R_takeBackFirst_17 rfl rfl ?_
        refine jx_callV1 d_R_takeBackFirst_18 mv_R_56 hA rfl (jx_ok_rm (by omega) (Nat.le_of_ble_eq_true rfl)) (Nat.le_of_ble_eq_true rfl) (jx_rmc (by omega)) (jx_rms (by omega)) (c_L_get (d := 2) (by omega) hF1.1 (by omega) ?_)
        dsimp only [Option.toList, List.cons_append, List.nil_append]
        refine jx_castn d_R_takeBackFirst_21 hfd.2 rfl nk_R_60 nx_F_KeyedFolds_Fold ?_
        refine jx_astore_n (i := 3) d_R_takeBackFirst_24 rfl (Nat.le_of_ble_eq_true rfl) (jx_e5_3 (by trivial)) ?_
        refine jx_aload_n (i := 3) d_R_takeBackFirst_25 rfl rfl ?_
        refine jx_callV0 d_R_takeBackFirst_26 mv_R_91 hfd.2 rfl (jx_ok_rm (by omega) (Nat.le_of_ble_eq_true rfl)) (Nat.le_of_ble_eq_true rfl) (jx_rmc (by omega)) (jx_rms (by omega)) (c_F_canBeTakenBack (d := 0) hfd.2 ?_)
        dsimp only [Option.toList, List.cons_append, List.nil_append]
        refine jx_if_eq (tgt := 80) d_R_takeBackFirst_29 (by decide) (fun c29 => ?_) (fun c29 => ?_)
        · rw [kf_b_eq0] at c29
          refine jx_iinc d_R_takeBackFirst_80 rfl (Nat.le_of_ble_eq_true rfl) (jx_e5_2 (by trivial)) ?_
          refine jx_goto (tgt := 2) d_R_takeBackFirst_83 (by decide) ?_
          rw [nI_1]
          refine jx_wk (l' := [some (.ref a), some (.int (nI g)), some (.int (nI (f + 1))), none, none]) (by simp [jx_le]) ?_
          refine ih (f + 1) M1 (by omega) ?_ hf
          rw [sp_ut_e (by simp [sp_n1, c29]), show sp_ws (sp_c1 fd g) wk (f + 1) = sp_ws (sp_c1 fd g) wk f by simp [sp_ws, sp_c1, c29]]
          exact h1
        · have ctb : sp_tb (nI (fd f).1) = true := by
            cases hq : sp_tb (nI (fd f).1) with
            | true => rfl
            | false => exact absurd ((kf_b_eq0 _).mpr hq) c29
          refine jx_iconst (v := 0) d_R_takeBackFirst_32 (by decide) ?_
          refine jx_istore d_R_takeBackFirst_33 (Nat.le_of_ble_eq_true rfl) (jx_e5_4 (by trivial)) ?_
          have inner : ∀ (j2 i : Nat) (M2 : jx_H), i + j2 = g → kr_H M2 a ta va sa nm fl nF n (sp_ws (sp_c1 fd g) wk f) tm vl (vp_updL (sp_ut f (sp_n1 fd vl ss g) ss) f (sp_tk (fd f).1 (fd f).2.2.1 vl i (ss f))) → kr_F a ta va sa M M2 → jx_V md_R_takeBackFirst [] G (jx_rm d 0 0) (jx_Q1 G 0 0 Z) 35 [some (.ref a), some (.int (nI g)), some (.int (nI f)), some (.ref (fo f)), some (.int (nI i))] [] M2 sz 0 0 := by
            intro j2
            induction j2 with
            | zero =>
              intro i M2 hi2 h2 hf2
              refine jx_iload d_R_takeBackFirst_35 rfl ?_
              refine jx_iload_n (i := 1) d_R_takeBackFirst_37 rfl rfl ?_
              refine jx_icmp_ge (tgt := 70) d_R_takeBackFirst_38 (by decide) (fun c38 => ?_) (fun c38 => ?_)
              · have e : i = g := by omega
                subst e
                have h3 := h2.ua n (sp_ws (sp_c1 fd i) wk f + nI i)
                refine jx_aload_n (i := 0) d_R_takeBackFirst_70 rfl rfl ?_
                refine jx_dup d_R_takeBackFirst_71 rfl ?_
                refine jx_getf d_R_takeBackFirst_72 gf_R_22 h2.1 rfl ?_
                refine jx_iload_n (i := 1) d_R_takeBackFirst_75 rfl rfl ?_
                refine jx_iadd d_R_takeBackFirst_76 ?_
                refine jx_putf d_R_takeBackFirst_77 pf_R_22 h2.1 (Nat.le_of_ble_eq_true rfl) rfl rfl ?_
                refine jx_iinc d_R_takeBackFirst_80 rfl (Nat.le_of_ble_eq_true rfl) (jx_e5_2 (by trivial)) ?_
                refine jx_goto (tgt := 2) d_R_takeBackFirst_83 (by decide) ?_
                rw [nI_1]
                refine jx_wk (l' := [some (.ref a), some (.int (nI i)), some (.int (nI (f + 1))), none, none]) (by simp [jx_le]) ?_
                refine ih (f + 1) _ (by omega) ?_ hf2.ua
                rw [← sp_ut_s, show sp_n1 fd vl ss i f = sp_tk (fd f).1 (fd f).2.2.1 vl i (ss f) by simp [sp_n1, ctb], show sp_ws (sp_c1 fd i) wk (f + 1) = sp_ws (sp_c1 fd i) wk f + nI i by simp [sp_ws, sp_c1, ctb]]
                exact h3
              · exact absurd ((nI_leI (by omega) (by omega)).mpr (by omega)) c38
            | succ j2 ih2 =>
              intro i M2 hi2 h2 hf2
              have hfd2 := (hF.to h hf2).2.2 f (by omega)
              refine jx_iload d_R_takeBackFirst_35 rfl ?_
              refine jx_iload_n (i := 1) d_R_takeBackFirst_37 rfl rfl ?_
              refine jx_icmp_ge (tgt := 70) d_R_takeBackFirst_38 (by decide) (fun c38 => ?_) (fun c38 => ?_)
              · exact absurd ((nI_leI (by omega) (by omega)).mp c38) (by omega)
              · refine jx_aload_n (i := 0) d_R_takeBackFirst_41 rfl rfl ?_
                refine jx_getf d_R_takeBackFirst_42 gf_R_33 h2.1 rfl ?_
                refine jx_iload_n (i := 2) d_R_takeBackFirst_45 rfl rfl ?_
                refine jx_aload_n (i := 3) d_R_takeBackFirst_46 rfl rfl ?_
                refine jx_aload_n (i := 0) d_R_takeBackFirst_47 rfl rfl ?_
                refine jx_getf d_R_takeBackFirst_48 gf_R_33 h2.1 rfl ?_
                refine jx_iload_n (i := 2) d_R_takeBackFirst_51 rfl rfl ?_
                refine jx_lald (t0 := 1) d_R_takeBackFirst_52 h2.2.2.2.1 rfl (vp_in_nI (by omega) (by omega)) ?_
                refine jx_aload_n (i := 0) d_R_takeBackFirst_53 rfl rfl ?_
                refine jx_getf d_R_takeBackFirst_54 gf_R_15 h2.1 rfl ?_
                refine jx_iload d_R_takeBackFirst_57 rfl ?_
                refine jx_lald (t0 := 1) d_R_takeBackFirst_59 h2.2.2.1 rfl (vp_in_nI (by omega) (by omega)) ?_
                rw [nI_clamp (by omega), nI_clamp (by omega), vp_us]
                refine jx_callV2 d_R_takeBackFirst_60 mv_R_94 hfd2.2 rfl (jx_ok_rm (by omega) (Nat.le_of_ble_eq_true rfl)) (Nat.le_of_ble_eq_true rfl) (jx_rmc (by omega)) (jx_rms (by omega)) (c_F_stepTakenBack (d := 0) hfd2.1 hfd2.2 ?_)
                dsimp only [Option.toList, List.cons_append, List.nil_append]
                refine jx_last (t0 := 1) d_R_takeBackFirst_63 h2.2.2.2.1 rfl (vp_in_nI (by omega) (by omega)) ?_
                rw [nI_clamp (by omega), vp_uu]
                refine jx_iinc d_R_takeBackFirst_64 rfl (Nat.le_of_ble_eq_true rfl) (jx_e5_4 (by trivial)) ?_
                refine jx_goto (tgt := 35) d_R_takeBackFirst_67 (by decide) ?_
                rw [nI_1]
                exact ih2 (i + 1) _ (by omega) (by have := h2.us (vp_updL (sp_ut f (sp_n1 fd vl ss g) ss) f (sp_tk (fd f).1 (fd f).2.2.1 vl (i + 1) (ss f))); exact this) hf2.us
          refine inner g 0 M1 (by omega) ?_ hf
          have e : vp_updL (sp_ut f (sp_n1 fd vl ss g) ss) f (sp_tk (fd f).1 (fd f).2.2.1 vl 0 (ss f)) = sp_ut f (sp_n1 fd vl ss g) ss := by
            funext q
            unfold vp_updL
            by_cases hq : q = f
            · subst hq
              rw [if_pos rfl, sp_ut_f]
              rfl
            · rw [if_neg hq]
          rw [e]
          exact h1
  refine jx_iconst (v := 0) d_R_takeBackFirst_0 (by decide) ?_
  refine jx_istore_n (i := 2) d_R_takeBackFirst_1 rfl (Nat.le_of_ble_eq_true rfl) (jx_e5_2 (by trivial)) ?_
  exact loop nF 0 M (by omega) (by rw [sp_ut_0]; exact h) kr_F.rf
theorem c_R_foldTheOthersAnew (hd : 2 < d) (hn : n ≤ 60) (h : kr_H M a ta va sa nm fl nF n wk tm vl ss) (hF : kf_Fs G M fl far nF fo fd) (k : ∀ M', kr_H M' a ta va sa nm fl nF n (sp_ws (sp_c2 fd n) wk nF) tm vl (sp_ut nF (sp_n2 fd tm vl ss n) ss) → kr_F a ta va sa M M' → Z none M' sz) : jx_Cr md_R_foldTheOthersAnew G d [.ref a] M sz 0 0 Z := by
  refine jx_ent rfl (Nat.le_of_ble_eq_true rfl) (l := [some (.ref a), none, none]) (by simp [jx_le, jx_eas, Value.category]) (fun hlt => ?_)
  have hnF := hF.2.1
  have loop : ∀ (j f : Nat) (M1 : jx_H), f + j = nF → kr_H M1 a ta va sa nm fl nF n (sp_ws (sp_c2 fd n) wk f) tm vl (sp_ut f (sp_n2 fd tm vl ss n) ss) → kr_F a ta va sa M M1 → jx_V md_R_foldTheOthersAnew [] G (jx_rm d 0 0) (jx_Q1 G 0 0 Z) 2 [some (.ref a), some (.int (nI f)), none] [] M1 sz 0 0 := by
    intro j
    induction j with
    | zero =>
      intro f M1 hi h1 hf
      have hF1 := hF.to h hf
      obtain ⟨mo, hA⟩ := hF1.1.1
      refine jx_iload_n (i := 1) d_R_foldTheOthersAnew_2 rfl rfl ?_
      refine jx_aload_n (i := 0) d_R_foldTheOthersAnew_3 rfl rfl ?_
      refine jx_getf d_R_foldTheOthersAnew_4 gf_R_29 h1.1 rfl ?_
      refine jx_callV0 d_R_foldTheOthersAnew_7 mv_R_50 hA rfl (jx_ok_rm (by omega) (Nat.le_of_ble_eq_true rfl)) (Nat.le_of_ble_eq_true rfl) (jx_rmc (by omega)) (jx_rms (by omega)) (c_L_size (d := 0) hF1.1 ?_)
      dsimp only [Option.toList, List.cons_append, List.nil_append]
      refine jx_icmp_ge (tgt := 66) d_R_foldTheOthersAnew_10 (by decide) (fun c10 => ?_) (fun c10 => ?_)
      · exact jx_vret d_R_foldTheOthersAnew_66 rfl (by omega) (by omega) (by
          have e : f = nF := by omega
          subst e
          exact k _ h1 hf)
      · exact absurd ((nI_leI (by omega) (by omega)).mpr (by omega)) c10
    | succ j ih =>
      intro f M1 hi h1 hf
      have hF1 := hF.to h hf
      have hfd := hF1.2.2 f (by omega)
      obtain ⟨mo, hA⟩ := hF1.1.1
      refine jx_iload_n (i := 1) d_R_foldTheOthersAnew_2 rfl rfl ?_
      refine jx_aload_n (i := 0) d_R_foldTheOthersAnew_3 rfl rfl ?_
      refine jx_getf d_R_foldTheOthersAnew_4 gf_R_29 h1.1 rfl ?_
      refine jx_callV0 d_R_foldTheOthersAnew_7 mv_R_50 hA rfl (jx_ok_rm (by omega) (Nat.le_of_ble_eq_true rfl)) (Nat.le_of_ble_eq_true rfl) (jx_rmc (by omega)) (jx_rms (by omega)) (c_L_size (d := 0) hF1.1 ?_)
      dsimp only [Option.toList, List.cons_append, List.nil_append]
      refine jx_icmp_ge (tgt := 66) d_R_foldTheOthersAnew_10 (by decide) (fun c10 => ?_) (fun c10 => ?_)
      · exact absurd ((nI_leI (by omega) (by omega)).mp c10) (by omega)
      · refine jx_aload_n (i := 0) d_R_foldTheOthersAnew_13 rfl rfl ?_
        refine jx_getf d_R_foldTheOthersAnew_14 gf_R_29 h1.1 rfl ?_
        refine jx_iload_n (i := 1) d_R_foldTheOthersAnew_17 rfl rfl ?_
        refine jx_callV1 d_R_foldTheOthersAnew_18 mv_R_56 hA rfl (jx_ok_rm (by omega) (Nat.le_of_ble_eq_true rfl)) (Nat.le_of_ble_eq_true rfl) (jx_rmc (by omega)) (jx_rms (by omega)) (c_L_get (d := 2) (by omega) hF1.1 (by omega) ?_)
        dsimp only [Option.toList, List.cons_append, List.nil_append]
        refine jx_castn d_R_foldTheOthersAnew_21 hfd.2 rfl nk_R_60 nx_F_KeyedFolds_Fold ?_
        refine jx_astore_n (i := 2) d_R_foldTheOthersAnew_24 rfl (Nat.le_of_ble_eq_true rfl) (jx_e3_2 (by trivial)) ?_
        refine jx_aload_n (i := 2) d_R_foldTheOthersAnew_25 rfl rfl ?_
        refine jx_callV0 d_R_foldTheOthersAnew_26 mv_R_91 hfd.2 rfl (jx_ok_rm (by omega) (Nat.le_of_ble_eq_true rfl)) (Nat.le_of_ble_eq_true rfl) (jx_rmc (by omega)) (jx_rms (by omega)) (c_F_canBeTakenBack (d := 0) hfd.2 ?_)
        dsimp only [Option.toList, List.cons_append, List.nil_append]
        refine jx_if_ne (tgt := 60) d_R_foldTheOthersAnew_29 (by decide) (fun c29 => ?_) (fun c29 => ?_)
        · have ctb : sp_tb (nI (fd f).1) = true := by
            cases hq : sp_tb (nI (fd f).1) with
            | true => rfl
            | false => exact absurd ((kf_b_eq0 _).mpr hq) c29
          refine jx_iinc d_R_foldTheOthersAnew_60 rfl (Nat.le_of_ble_eq_true rfl) (jx_e3_1 (by trivial)) ?_
          refine jx_goto (tgt := 2) d_R_foldTheOthersAnew_63 (by decide) ?_
          rw [nI_1]
          refine jx_wk (l' := [some (.ref a), some (.int (nI (f + 1))), none]) (by simp [jx_le]) ?_
          refine ih (f + 1) M1 (by omega) ?_ hf
          rw [sp_ut_e (by simp [sp_n2, ctb]), show sp_ws (sp_c2 fd n) wk (f + 1) = sp_ws (sp_c2 fd n) wk f by simp [sp_ws, sp_c2, ctb]]
          exact h1
        · rw [kf_b_eq0] at c29
          refine jx_aload_n (i := 0) d_R_foldTheOthersAnew_32 rfl rfl ?_
          refine jx_getf d_R_foldTheOthersAnew_33 gf_R_33 h1.1 rfl ?_
          refine jx_iload_n (i := 1) d_R_foldTheOthersAnew_36 rfl rfl ?_
          refine jx_aload_n (i := 0) d_R_foldTheOthersAnew_37 rfl rfl ?_
          refine jx_aload_n (i := 0) d_R_foldTheOthersAnew_38 rfl rfl ?_
          refine jx_getf d_R_foldTheOthersAnew_39 gf_R_18 h1.1 rfl ?_
          refine jx_aload_n (i := 2) d_R_foldTheOthersAnew_42 rfl rfl ?_
          refine jx_callV2 d_R_foldTheOthersAnew_43 mv_R_70 h1.1 rfl (jx_ok_rm (by omega) (Nat.le_of_ble_eq_true rfl)) (Nat.le_of_ble_eq_true rfl) (jx_rmc (by omega)) (jx_rms (by omega)) (c_R_stateOfFirst (d := 2) (by omega) h1.1 h1.2.1 h1.2.2.1 hfd.2 hfd.1 hn (Nat.le_refl _) ?_)
          dsimp only [Option.toList, List.cons_append, List.nil_append]
          have h2 := h1.us (sp_ut (f + 1) (sp_n2 fd tm vl ss n) ss)
          have h3 := h2.ua n (sp_ws (sp_c2 fd n) wk f + nI n)
          refine jx_last (t0 := 1) d_R_foldTheOthersAnew_46 h1.2.2.2.1 rfl (vp_in_nI (by omega) (by omega)) ?_
          rw [nI_clamp (by omega), show sp_fo (fd f).1 (fd f).2.1 (fd f).2.2.1 tm vl n = sp_n2 fd tm vl ss n f by simp [sp_n2, c29], sp_ut_s]
          refine jx_aload_n (i := 0) d_R_foldTheOthersAnew_47 rfl rfl ?_
          refine jx_dup d_R_foldTheOthersAnew_48 rfl ?_
          refine jx_getf d_R_foldTheOthersAnew_49 gf_R_22 h2.1 rfl ?_
          refine jx_aload_n (i := 0) d_R_foldTheOthersAnew_52 rfl rfl ?_
          refine jx_getf d_R_foldTheOthersAnew_53 gf_R_18 h2.1 rfl ?_
          refine jx_iadd d_R_foldTheOthersAnew_56 ?_
          refine jx_putf d_R_foldTheOthersAnew_57 pf_R_22 h2.1 (Nat.le_of_ble_eq_true rfl) rfl rfl ?_
          refine jx_iinc d_R_foldTheOthersAnew_60 rfl (Nat.le_of_ble_eq_true rfl) (jx_e3_1 (by trivial)) ?_
          refine jx_goto (tgt := 2) d_R_foldTheOthersAnew_63 (by decide) ?_
          rw [nI_1]
          refine jx_wk (l' := [some (.ref a), some (.int (nI (f + 1))), none]) (by simp [jx_le]) ?_
          refine ih (f + 1) _ (by omega) ?_ hf.us.ua
          rw [show sp_ws (sp_c2 fd n) wk (f + 1) = sp_ws (sp_c2 fd n) wk f + nI n by simp [sp_ws, sp_c2, c29]]
          exact h3
  refine jx_iconst (v := 0) d_R_foldTheOthersAnew_0 (by decide) ?_
  refine jx_istore_n (i := 1) d_R_foldTheOthersAnew_1 rfl (Nat.le_of_ble_eq_true rfl) (jx_e3_1 (by trivial)) ?_
  exact loop nF 0 M (by omega) (by rw [sp_ut_0]; exact h) kr_F.rf
end CR3
