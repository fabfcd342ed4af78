/-! PART 23: KeyedFolds: the keys, the timers -/
/-- a key's data: how many rows, work, times, values, states -/
abbrev sp_key : Type := Nat × Int32 × (Nat → Int64) × (Nat → Int64) × (Nat → Int64)
def kq_H (M : jx_H) (o a nF : Nat) (nm : Int64) (q : sp_key) : Prop := kr_H M o (o + 2) (o + 3) (o + 1) nm (a + 1) nF q.1 q.2.1 q.2.2.1 q.2.2.2.1 q.2.2.2.2
/-- the keys: in blocks of four cells, from lo on -/
def kC_K (G : jx_G) (M : jx_H) (a lo nF kar nK : Nat) (ko : Nat → Nat) (nm : Nat → Int64) (kd : Nat → sp_key) : Prop := kf_L G M 1 (a + 2) kar nK ko ∧ nK ≤ 30 ∧ ((nK = 0 ∧ kar = jx_ea G) ∨ lo ≤ kar) ∧ (∀ j, j < nK → (kd j).1 ≤ 60 ∧ kq_H M (ko j) a nF (nm j) (kd j) ∧ lo ≤ ko j) ∧ ∀ i j, i < j → j < nK → ko i + 4 ≤ ko j
/-- the folds: in blocks of two cells, below lo -/
def kC_F (G : jx_G) (M : jx_H) (a lo far nF : Nat) (fo : Nat → Nat) (fd : sp_fd) (fw : Nat → Nat → Int64) : Prop := kf_Fs G M (a + 1) far nF fo fd ∧ kf_Ff M nF fd fw ∧ a + 24 ≤ lo ∧ ((nF = 0 ∧ far = jx_ea G) ∨ (a + 24 ≤ far ∧ far < lo)) ∧ (∀ i, i < nF → a + 24 ≤ fo i ∧ fo i + 1 < lo ∧ (fd i).2.2.2.2 = fo i + 1) ∧ ∀ i j, i < j → j < nF → fo i + 2 ≤ fo j
theorem kC_K.kn {G : jx_G} {M : jx_H} {a lo nF kar nK : Nat} {ko : Nat → Nat} {nm : Nat → Int64} {kd : Nat → sp_key} (h : kC_K G M a lo nF kar nK ko nm kd) : kf_Kn G M (a + 2) kar nK ko nm (fun j => (kd j).1) := ⟨h.1, h.2.1, fun j hj => ⟨(h.2.2.2.1 j hj).1, _, _, _, _, _, (h.2.2.2.1 j hj).2.1.1⟩⟩
theorem kC_F.to {G : jx_G} {M M' : jx_H} {a lo far nF : Nat} {fo : Nat → Nat} {fd : sp_fd} {fw : Nat → Nat → Int64} (h : kC_F G M a lo far nF fo fd fw) (hf : ∀ q, q = a + 1 ∨ (a + 24 ≤ q ∧ q < lo) → M' q = M q) : kC_F G M' a lo far nF fo fd fw := by
  obtain ⟨⟨⟨⟨mo, g1⟩, g2⟩, g3, g4⟩, h2, h3, h4, h5, h6⟩ := h
  refine ⟨⟨⟨⟨mo, by rw [hf _ (Or.inl rfl)]; exact g1⟩, ?_⟩, g3, fun i hi => ⟨(g4 i hi).1, ?_⟩⟩, fun i hi => ⟨(h2 i hi).1, ?_⟩, h3, h4, h5, h6⟩
  · rcases h4 with h4 | h4
    · exact Or.inl h4
    · rcases g2 with g2 | ⟨N, f, e1, e2⟩
      · exact Or.inl g2
      · exact Or.inr ⟨N, f, by rw [hf _ (Or.inr h4)]; exact e1, e2⟩
  · have := h5 i hi
    rw [hf _ (Or.inr ⟨this.1, by omega⟩)]
    exact (g4 i hi).2
  · have := h5 i hi
    rw [hf _ (Or.inr ⟨by rw [this.2.2]; omega, by rw [this.2.2]; omega⟩)]
    exact (h2 i hi).2

theorem kr_H.to {M M' : jx_H} {a ta va sa fl nF n : Nat} {nm : Int64} {wk : Int32} {tm vl ss : Nat → Int64} (h : kr_H M a ta va sa nm fl nF n wk tm vl ss) (h1 : M' a = M a) (h2 : M' ta = M ta) (h3 : M' va = M va) (h4 : M' sa = M sa) : kr_H M' a ta va sa nm fl nF n wk tm vl ss := ⟨h1.trans h.1, h2.trans h.2.1, h3.trans h.2.2.1, h4.trans h.2.2.2.1, h.2.2.2.2⟩
theorem kC_K.to {G : jx_G} {M M' : jx_H} {a lo nF kar nK : Nat} {ko : Nat → Nat} {nm : Nat → Int64} {kd : Nat → sp_key} (h : kC_K G M a lo nF kar nK ko nm kd) (hf : ∀ q, q = a + 2 ∨ lo ≤ q → M' q = M q) : kC_K G M' a lo nF kar nK ko nm kd := by
  obtain ⟨⟨⟨mo, g1⟩, g2⟩, h2, h3, h4, h5⟩ := h
  refine ⟨⟨⟨mo, by rw [hf _ (Or.inl rfl)]; exact g1⟩, ?_⟩, h2, h3, fun j hj => ⟨(h4 j hj).1, ?_, (h4 j hj).2.2⟩, h5⟩
  · rcases h3 with h3 | h3
    · exact Or.inl h3
    · rcases g2 with g2 | ⟨N, f, e1, e2⟩
      · exact Or.inl g2
      · exact Or.inr ⟨N, f, by rw [hf _ (Or.inr h3)]; exact e1, e2⟩
  · have := (h4 j hj).2.2
    exact kr_H.to (h4 j hj).2.1 (hf _ (Or.inr (by omega))) (hf _ (Or.inr (by omega))) (hf _ (Or.inr (by omega))) (hf _ (Or.inr (by omega)))
/-- one key's data have changed, in its block alone -/
theorem kC_K.set {G : jx_G} {M M' : jx_H} {a lo nF kar nK : Nat} {ko : Nat → Nat} {nm : Nat → Int64} {kd : Nat → sp_key} (h : kC_K G M a lo nF kar nK ko nm kd) {i : Nat} (hi : i < nK) {q' : sp_key} (hlo : a + 2 < lo) (hq : q'.1 ≤ 60) (hH : kq_H M' (ko i) a nF (nm i) q') (hf : kr_F (ko i) (ko i + 2) (ko i + 3) (ko i + 1) M M') : kC_K G M' a lo nF kar nK ko nm (va_up kd i q') := by
  obtain ⟨⟨⟨mo, g1⟩, g2⟩, h2, h3, h4, h5⟩ := h
  have hki := h4 i hi
  have hfr : ∀ q, q < ko i ∨ ko i + 4 ≤ q → M' q = M q := fun q hq => hf q (by omega) (by omega) (by omega) (by omega)
  refine ⟨⟨⟨mo, by rw [hfr _ (Or.inl (by omega))]; exact g1⟩, ?_⟩, h2, h3, fun j hj => ?_, h5⟩
  · rcases g2 with g2 | ⟨N, f, e1, e2⟩
    · exact Or.inl g2
    · refine Or.inr ⟨N, f, ?_, e2⟩
      have hkk := hki.2.1
      rw [hf kar (fun z => by rw [z, hkk.1] at e1; simp at e1) (fun z => by rw [z, hkk.2.1] at e1; simp at e1) (fun z => by rw [z, hkk.2.2.1] at e1; simp at e1) (fun z => by rw [z, hkk.2.2.2.1] at e1; simp at e1)]
      exact e1
  · by_cases hij : j = i
    · subst hij
      simp only [va_up, if_true]
      exact ⟨hq, hH, hki.2.2⟩
    · simp only [va_up, if_neg hij]
      have hkj := h4 j hj
      have hsep : ko j + 4 ≤ ko i ∨ ko i + 4 ≤ ko j := by
        rcases Nat.lt_or_gt_of_ne hij with z | z
        · exact Or.inl (h5 j i z hi)
        · exact Or.inr (h5 i j z hj)
      exact ⟨hkj.1, kr_H.to hkj.2.1 (hfr _ (by omega)) (hfr _ (by omega)) (hfr _ (by omega)) (hfr _ (by omega)), hkj.2.2⟩
/-- the outputs of one m: of the first keys -/
def sp_tl (nF : Nat) (fd : sp_fd) (nm : Nat → Int64) (kd : Nat → sp_key) (m : Int64) : Nat → Nat × (Nat → Int64) → Nat × (Nat → Int64)
  | 0, r => r
  | j + 1, r => if 0 < sp_ld (fun i => decide ((kd j).2.2.1 i < m)) (kd j).1 then ((sp_tl nF fd nm kd m j r).1 + 1, sp_ou (sp_tl nF fd nm kd m j r).2 (sp_tl nF fd nm kd m j r).1 m (nm j) (fun f => sp_fo (fd f).1 (fd f).2.1 (fd f).2.2.1 (kd j).2.2.1 (kd j).2.2.2.1 (sp_ld (fun i => decide ((kd j).2.2.1 i < m)) (kd j).1)) nF) else sp_tl nF fd nm kd m j r
theorem sp_tl_le (nF : Nat) (fd : sp_fd) (nm : Nat → Int64) (kd : Nat → sp_key) (m : Int64) : ∀ (j : Nat) (r : Nat × (Nat → Int64)), (sp_tl nF fd nm kd m j r).1 ≤ r.1 + j := by
  intro j
  induction j with
  | zero => intro r; exact Nat.le_refl _
  | succ j ih =>
    intro r
    unfold sp_tl
    have := ih r
    split
    · show (sp_tl nF fd nm kd m j r).1 + 1 ≤ r.1 + (j + 1)
      omega
    · omega
/-- all outputs of the last ms, the least first -/
def sp_dt (nF : Nat) (fd : sp_fd) (nm : Nat → Int64) (kd : Nat → sp_key) (nK L P : Nat) : Nat → Nat × (Nat → Int64) → Nat × (Nat → Int64)
  | 0, r => r
  | b + 1, r => sp_dt nF fd nm kd nK L P b (sp_tl nF fd nm kd (lN L - lN b * lN P) nK r)
/-- the outputs' two cells -/
def ko_M (M : jx_H) (a : Nat) (r : Nat × (Nat → Int64)) : jx_H := jx_up (jx_up M (a + 7) (kf_T r.1 300 8 (a + 8))) (a + 8) (kf_la 2400 r.2)
theorem ko_M_o (M : jx_H) {a q : Nat} (r : Nat × (Nat → Int64)) (h1 : q ≠ a + 7) (h2 : q ≠ a + 8) : ko_M M a r q = M q := by
  unfold ko_M
  rw [jx_up_n _ _ h2, jx_up_n _ _ h1]
theorem ko_M_7 (M : jx_H) (a : Nat) (r : Nat × (Nat → Int64)) : ko_M M a r (a + 7) = some (kf_T r.1 300 8 (a + 8)) := by
  unfold ko_M
  rw [jx_up_n _ _ (by omega), jx_up_s]
theorem ko_M_8 (M : jx_H) (a : Nat) (r : Nat × (Nat → Int64)) : ko_M M a r (a + 8) = some (kf_la 2400 r.2) := by
  unfold ko_M
  rw [jx_up_s]
theorem ko_M_u (M : jx_H) (a : Nat) (r r' : Nat × (Nat → Int64)) : jx_up (jx_up (ko_M M a r) (a + 7) (kf_T r'.1 300 8 (a + 8))) (a + 8) (kf_la 2400 r'.2) = ko_M M a r' := by
  unfold ko_M
  rw [jx_up_c _ _ _ (show a + 8 ≠ a + 7 by omega), jx_up_u, jx_up_u]
theorem ko_M_id {M : jx_H} {a n : Nat} {oc : Nat → Int64} (h7 : M (a + 7) = some (kf_T n 300 8 (a + 8))) (h8 : M (a + 8) = some (kf_la 2400 oc)) : ko_M M a (n, oc) = M := by
  unfold ko_M
  rw [jx_up_id _ h7, jx_up_id _ h8]
section CK3
variable {G : jx_G} {d a lo far kar nF nK sz nO : Nat} {la wi en pe lr fr tk lc db fc le : Int32} {gt lt m : Int64} {fo ko : Nat → Nat} {nm : Nat → Int64} {kd : Nat → sp_key} {fd : sp_fd} {fw : Nat → Nat → Int64} {oc : Nat → Int64} {M : jx_H} {Z : Option Value → jx_H → Nat → Prop}
theorem c_K_tellStatesBelow (hd : 3 < d) (hn : nO < 2 ^ 28) (hK : M a = some (kf_K la wi en pe (a + 1) (a + 2) (a + 3) (a + 5) (a + 7) lr fr gt lt tk lc db fc le)) (h7 : M (a + 7) = some (kf_T nO 300 8 (a + 8))) (h8 : M (a + 8) = some (kf_la 2400 oc)) (hF : kC_F G M a lo far nF fo fd fw) (hQ : kC_K G M a lo nF kar nK ko nm kd) (k : Z none (ko_M M a (sp_tl nF fd nm kd m nK (nO, oc))) sz) : jx_Cr md_K_tellStatesBelow G d [.ref a, .long m] M sz 0 0 Z := by
  refine jx_ent rfl (Nat.le_of_ble_eq_true rfl) (l := [some (.ref a), some (.long m), none, none, none, none]) (by simp [jx_le, jx_eas, Value.category]) (fun hlt => ?_)
  have hnK := hQ.2.1
  have hlo := hF.2.2.1
  have loop : ∀ (j i : Nat), i + j = nK → jx_V md_K_tellStatesBelow [] G (jx_rm d 0 0) (jx_Q1 G 0 0 Z) 2 [some (.ref a), some (.long m), none, some (.int (nI i)), none, none] [] (ko_M M a (sp_tl nF fd nm kd m i (nO, oc))) sz 0 0 := by
    intro j
    induction j with
    | zero =>
      intro i hi
      have hQ1 := hQ.to (M' := ko_M M a (sp_tl nF fd nm kd m i (nO, oc))) (fun q hq => ko_M_o _ _ (by omega) (by omega))
      obtain ⟨mo, hA⟩ := hQ1.1.1
      refine jx_iload_n (i := 3) d_K_tellStatesBelow_2 rfl rfl ?_
      refine jx_aload_n (i := 0) d_K_tellStatesBelow_3 rfl rfl ?_
      refine jx_getf d_K_tellStatesBelow_4 gf_K_16 ((ko_M_o _ _ (by omega) (by omega)).trans hK) rfl ?_
      refine jx_callV0 d_K_tellStatesBelow_7 mv_K_92 hA rfl (jx_ok_rm (by omega) (Nat.le_of_ble_eq_true rfl)) (Nat.le_of_ble_eq_true rfl) (jx_rmc (by omega)) (jx_rms (by omega)) (c_L_size (d := 0) hQ1.1 ?_)
      dsimp only [Option.toList, List.cons_append, List.nil_append]
      refine jx_icmp_ge (tgt := 54) d_K_tellStatesBelow_10 (by decide) (fun c10 => ?_) (fun c10 => ?_)
      · exact jx_vret d_K_tellStatesBelow_54 rfl (by omega) (by omega) (by
          have e : i = nK := by omega
          subst e
          exact k)
      · exact absurd ((nI_leI (by omega) (by omega)).mpr (by omega)) c10
    | succ j ih =>
      intro i hi
      have hle := sp_tl_le nF fd nm kd m i (nO, oc)
      have hle' : (sp_tl nF fd nm kd m i (nO, oc)).1 ≤ nO + i := hle
      have hs : ∀ r, r = sp_tl nF fd nm kd m (i + 1) (nO, oc) → jx_V md_K_tellStatesBelow [] G (jx_rm d 0 0) (jx_Q1 G 0 0 Z) 48 [some (.ref a), some (.long m), none, some (.int (nI i)), none, none] [] (ko_M M a r) sz 0 0 := by
        intro r hr
        subst hr
        refine jx_iinc d_K_tellStatesBelow_48 rfl (Nat.le_of_ble_eq_true rfl) (jx_e6_3 (by trivial)) ?_
        refine jx_goto (tgt := 2) d_K_tellStatesBelow_51 (by decide) ?_
        rw [nI_1]
        exact ih (i + 1) (by omega)
      have hQ1 := hQ.to (M' := ko_M M a (sp_tl nF fd nm kd m i (nO, oc))) (fun q hq => ko_M_o _ _ (by omega) (by omega))
      have hF1 := hF.to (M' := ko_M M a (sp_tl nF fd nm kd m i (nO, oc))) (fun q hq => ko_M_o _ _ (by omega) (by omega))
      obtain ⟨mo, hA⟩ := hQ1.1.1
      have hki := hQ1.2.2.2.1 i (by omega)
      refine jx_iload_n (i := 3) d_K_tellStatesBelow_2 rfl rfl ?_
      refine jx_aload_n (i := 0) d_K_tellStatesBelow_3 rfl rfl ?_
      refine jx_getf d_K_tellStatesBelow_4 gf_K_16 ((ko_M_o _ _ (by omega) (by omega)).trans hK) rfl ?_
      refine jx_callV0 d_K_tellStatesBelow_7 mv_K_92 hA rfl (jx_ok_rm (by omega) (Nat.le_of_ble_eq_true rfl)) (Nat.le_of_ble_eq_true rfl) (jx_rmc (by omega)) (jx_rms (by omega)) (c_L_size (d := 0) hQ1.1 ?_)
      dsimp only [Option.toList, List.cons_append, List.nil_append]
      refine jx_icmp_ge (tgt := 54) d_K_tellStatesBelow_10 (by decide) (fun c10 => ?_) (fun c10 => ?_)
      · exact absurd ((nI_leI (by omega) (by omega)).mp c10) (by omega)
      · refine jx_aload_n (i := 0) d_K_tellStatesBelow_13 rfl rfl ?_
        refine jx_getf d_K_tellStatesBelow_14 gf_K_16 ((ko_M_o _ _ (by omega) (by omega)).trans hK) rfl ?_
        refine jx_iload_n (i := 3) d_K_tellStatesBelow_17 rfl rfl ?_
        refine jx_callV1 d_K_tellStatesBelow_18 mv_K_125 hA rfl (jx_ok_rm (by omega) (Nat.le_of_ble_eq_true rfl)) (Nat.le_of_ble_eq_true rfl) (jx_rmc (by omega)) (jx_rms (by omega)) (c_L_get (d := 2) (by omega) hQ1.1 (by omega) ?_)
        dsimp only [Option.toList, List.cons_append, List.nil_append]
        refine jx_castn d_K_tellStatesBelow_21 hki.2.1.1 rfl nk_K_196 nx_R_KeyedFolds_KeyRows ?_
        refine jx_astore d_K_tellStatesBelow_24 (Nat.le_of_ble_eq_true rfl) (jx_e6_4 (by trivial)) ?_
        refine jx_aload d_K_tellStatesBelow_26 rfl ?_
        refine jx_lload_n (i := 1) d_K_tellStatesBelow_28 rfl rfl ?_
        refine jx_callV1 d_K_tellStatesBelow_29 mv_K_317 hki.2.1.1 rfl (jx_ok_rm (by omega) (Nat.le_of_ble_eq_true rfl)) (Nat.le_of_ble_eq_true rfl) (jx_rmc (by omega)) (jx_rms (by omega)) (c_R_countBelow (d := 0) hki.2.1.1 hki.2.1.2.1 hki.1 ?_)
        dsimp only [Option.toList, List.cons_append, List.nil_append]
        have hb := sp_ld_le (fun i' => decide ((kd i).2.2.1 i' < m)) (kd i).1
        refine jx_istore d_K_tellStatesBelow_32 (Nat.le_of_ble_eq_true rfl) (jx_e6_5 (by trivial)) ?_
        refine jx_iload d_K_tellStatesBelow_34 rfl ?_
        refine jx_if_le (tgt := 48) d_K_tellStatesBelow_36 (by decide) (fun c36 => ?_) (fun c36 => ?_)
        · have e : ¬ 0 < sp_ld (fun i' => decide ((kd i).2.2.1 i' < m)) (kd i).1 := by
            have := (nI_leI (b := 0) (by omega) (by omega)).mp c36
            omega
          refine jx_wk (l' := [some (.ref a), some (.long m), none, some (.int (nI i)), none, none]) (by simp [jx_le]) ?_
          exact hs _ (by show _ = sp_tl nF fd nm kd m (i + 1) (nO, oc); rw [sp_tl, if_neg e])
        · have e : 0 < sp_ld (fun i' => decide ((kd i).2.2.1 i' < m)) (kd i).1 := by
            rcases Nat.eq_zero_or_pos (sp_ld (fun i' => decide ((kd i).2.2.1 i' < m)) (kd i).1) with q | q
            · exact absurd (by rw [q]; decide) c36
            · exact q
          refine jx_aload_n (i := 0) d_K_tellStatesBelow_39 rfl rfl ?_
          refine jx_lload_n (i := 1) d_K_tellStatesBelow_40 rfl rfl ?_
          refine jx_aload d_K_tellStatesBelow_41 rfl ?_
          refine jx_iload d_K_tellStatesBelow_43 rfl ?_
          refine jx_callV3 d_K_tellStatesBelow_45 mv_K_320 ((ko_M_o _ _ (by omega) (by omega)).trans hK) rfl (jx_ok_rm (by omega) (Nat.le_of_ble_eq_true rfl)) (Nat.le_of_ble_eq_true rfl) (jx_rmc (by omega)) (jx_rms (by omega)) (c_K_putOut (d := 3) (by omega) (by omega) ((ko_M_o _ _ (by omega) (by omega)).trans hK) (ko_M_7 _ _ _) (ko_M_8 _ _ _) hF1.1 hki.2.1.1 hki.2.1.2.1 hki.2.1.2.2.1 (by have := hki.2.2; omega) (by have := hki.2.2; omega) hki.1 hb ?_)
          dsimp only [Option.toList, List.cons_append, List.nil_append]
          rw [ko_M_u M a _ ((sp_tl nF fd nm kd m i (nO, oc)).1 + 1, sp_ou (sp_tl nF fd nm kd m i (nO, oc)).2 (sp_tl nF fd nm kd m i (nO, oc)).1 m (nm i) (fun f => sp_fo (fd f).1 (fd f).2.1 (fd f).2.2.1 (kd i).2.2.1 (kd i).2.2.2.1 (sp_ld (fun i' => decide ((kd i).2.2.1 i' < m)) (kd i).1)) nF)]
          refine jx_wk (l' := [some (.ref a), some (.long m), none, some (.int (nI i)), none, none]) (by simp [jx_le]) ?_
          exact hs _ (by show _ = sp_tl nF fd nm kd m (i + 1) (nO, oc); rw [sp_tl, if_pos e])
  refine jx_iconst (v := 0) d_K_tellStatesBelow_0 (by decide) ?_
  refine jx_istore_n (i := 3) d_K_tellStatesBelow_1 rfl (Nat.le_of_ble_eq_true rfl) (jx_e6_3 (by trivial)) ?_
  have := loop nK 0 (by omega)
  rw [show sp_tl nF fd nm kd m 0 (nO, oc) = (nO, oc) from rfl, ko_M_id h7 h8] at this
  exact this
end CK3
