/-! PART 18: KeyRows, what is written: rows -/
theorem jx_castn {y : jx_md} {hh : jx_h4} {G : jx_G} {R : Room} {Q : Array Value → State → List Frame → State → Prop} {pc : Nat} {l : List (Option Value)} {st : List Value} {M : jx_H} {sz kc ks a k : Nat} {fs : List Value} {idx : Nat} {C0 nm : String} {T : u_T} {N : Nat} (dc : decode y.2.1 pc = .ok (.checkcast idx, 3)) (hM : M a = some (.inl (k, fs))) (h1 : vwCl[k]? = some (C0, T, N)) (h2 : Cond.classLink y.1.cls idx nm ∈ jx_tb) (h3 : Cond.castable C0 nm ∈ jx_nb) (kk : jx_V y hh G R Q (pc + 3) l (.ref a :: st) M sz kc ks) : jx_V y hh G R Q pc l (.ref a :: st) M sz kc ks := by
  intro p L e s m args below meth c C K H locs ls hR hS hL
  obtain ⟨hx, hb, hr, hml, hown, hts, hlk, hnm, hex, hst⟩ := id C
  exact va_castY hx hb hown (hts _ h2) (K.2.1 _ h3) (jx_recv hR K hM h1) dc (kk p L e s m args below meth c C K H locs ls hR hS hL)
/-- the four cells of a key -/
def kr_H (M : jx_H) (a ta va sa : Nat) (nm : Int64) (fl nF n : Nat) (wk : Int32) (tm vl ss : Nat → Int64) : Prop := M a = some (kf_R nm ta va sa n wk fl) ∧ M ta = some (kf_la 60 tm) ∧ M va = some (kf_la 60 vl) ∧ M sa = some (kf_la nF ss) ∧ ta ≠ va ∧ ta ≠ sa ∧ va ≠ sa
/-- nothing else has changed -/
def kr_F (a ta va sa : Nat) (M M' : jx_H) : Prop := ∀ q, q ≠ a → q ≠ ta → q ≠ va → q ≠ sa → M' q = M q
theorem kr_F.rf {a ta va sa : Nat} {M : jx_H} : kr_F a ta va sa M M := fun _ _ _ _ _ => rfl
theorem kr_F.tr {a ta va sa : Nat} {M M' M'' : jx_H} (h : kr_F a ta va sa M M') (h' : kr_F a ta va sa M' M'') : kr_F a ta va sa M M'' := fun q h1 h2 h3 h4 => (h' q h1 h2 h3 h4).trans (h q h1 h2 h3 h4)
section KR
variable {M M' : jx_H} {a ta va sa fl nF n : Nat} {nm : Int64} {wk : Int32} {tm vl ss : Nat → Int64} {e : jx_E}
theorem kr_F.ua (h : kr_F a ta va sa M M') : kr_F a ta va sa M (jx_up M' a e) := fun q h1 h2 h3 h4 => (jx_up_n _ _ h1).trans (h q h1 h2 h3 h4)
theorem kr_F.ut (h : kr_F a ta va sa M M') : kr_F a ta va sa M (jx_up M' ta e) := fun q h1 h2 h3 h4 => (jx_up_n _ _ h2).trans (h q h1 h2 h3 h4)
theorem kr_F.uv (h : kr_F a ta va sa M M') : kr_F a ta va sa M (jx_up M' va e) := fun q h1 h2 h3 h4 => (jx_up_n _ _ h3).trans (h q h1 h2 h3 h4)
theorem kr_F.us (h : kr_F a ta va sa M M') : kr_F a ta va sa M (jx_up M' sa e) := fun q h1 h2 h3 h4 => (jx_up_n _ _ h4).trans (h q h1 h2 h3 h4)
theorem kr_ne (h : kr_H M a ta va sa nm fl nF n wk tm vl ss) : a ≠ ta ∧ a ≠ va ∧ a ≠ sa := by
  obtain ⟨h1, h2, h3, h4, -⟩ := h
  refine ⟨fun q => ?_, fun q => ?_, fun q => ?_⟩
  · rw [q, h2] at h1; simp at h1
  · rw [q, h3] at h1; simp at h1
  · rw [q, h4] at h1; simp at h1
theorem kr_H.ua (h : kr_H M a ta va sa nm fl nF n wk tm vl ss) (n' : Nat) (wk' : Int32) : kr_H (jx_up M a (kf_R nm ta va sa n' wk' fl)) a ta va sa nm fl nF n' wk' tm vl ss := by
  have hn := kr_ne h
  obtain ⟨h1, h2, h3, h4, d1, d2, d3⟩ := h
  exact ⟨jx_up_s _ _ _, (jx_up_n _ _ (Ne.symm hn.1)).trans h2, (jx_up_n _ _ (Ne.symm hn.2.1)).trans h3, (jx_up_n _ _ (Ne.symm hn.2.2)).trans h4, d1, d2, d3⟩
theorem kr_H.ut (h : kr_H M a ta va sa nm fl nF n wk tm vl ss) (tm' : Nat → Int64) : kr_H (jx_up M ta (kf_la 60 tm')) a ta va sa nm fl nF n wk tm' vl ss := by
  have hn := kr_ne h
  obtain ⟨h1, h2, h3, h4, d1, d2, d3⟩ := h
  exact ⟨(jx_up_n _ _ hn.1).trans h1, jx_up_s _ _ _, (jx_up_n _ _ (Ne.symm d1)).trans h3, (jx_up_n _ _ (Ne.symm d2)).trans h4, d1, d2, d3⟩
theorem kr_H.uv (h : kr_H M a ta va sa nm fl nF n wk tm vl ss) (vl' : Nat → Int64) : kr_H (jx_up M va (kf_la 60 vl')) a ta va sa nm fl nF n wk tm vl' ss := by
  have hn := kr_ne h
  obtain ⟨h1, h2, h3, h4, d1, d2, d3⟩ := h
  exact ⟨(jx_up_n _ _ hn.2.1).trans h1, (jx_up_n _ _ d1).trans h2, jx_up_s _ _ _, (jx_up_n _ _ (Ne.symm d3)).trans h4, d1, d2, d3⟩
theorem kr_H.us (h : kr_H M a ta va sa nm fl nF n wk tm vl ss) (ss' : Nat → Int64) : kr_H (jx_up M sa (kf_la nF ss')) a ta va sa nm fl nF n wk tm vl ss' := by
  have hn := kr_ne h
  obtain ⟨h1, h2, h3, h4, d1, d2, d3⟩ := h
  exact ⟨(jx_up_n _ _ hn.2.2).trans h1, (jx_up_n _ _ d2).trans h2, (jx_up_n _ _ d3).trans h3, jx_up_s _ _ _, d1, d2, d3⟩
end KR
/-- a fold's data: kind, start, p, how many values it fails at, their array -/
abbrev kf_Fd (q : Nat × Int64 × Int64 × Nat × Nat) : jx_E := kf_F (nI q.1) q.2.1 q.2.2.1 q.2.2.2.1 q.2.2.2.2
/-- the folds' list -/
def kf_Fs (G : jx_G) (M : jx_H) (fl far nF : Nat) (fo : Nat → Nat) (fd : Nat → Nat × Int64 × Int64 × Nat × Nat) : Prop := kf_L G M 0 fl far nF fo ∧ nF ≤ 6 ∧ ∀ i, i < nF → (fd i).1 ≤ 8 ∧ M (fo i) = some (kf_Fd (fd i))
theorem kf_Fs.to {G : jx_G} {M M' : jx_H} {a ta va sa fl nF n far : Nat} {nm : Int64} {wk : Int32} {tm vl ss : Nat → Int64} {fo : Nat → Nat} {fd : Nat → Nat × Int64 × Int64 × Nat × Nat} (hF : kf_Fs G M fl far nF fo fd) (h : kr_H M a ta va sa nm fl nF n wk tm vl ss) (hf : kr_F a ta va sa M M') : kf_Fs G M' fl far nF fo fd := by
  obtain ⟨⟨⟨mo, g1⟩, g2⟩, g3, g4⟩ := hF
  obtain ⟨h1, h2, h3, h4, -⟩ := h
  have key : ∀ q e, M q = some e → (∀ nm n wk fl, e ≠ kf_R nm ta va sa n wk fl) → (∀ n f, e ≠ kf_la n f) → M' q = some e := by
    intro q e he n1 n2
    rw [hf q (fun z => by rw [z, h1] at he; exact n1 _ _ _ _ (Option.some.inj he).symm) (fun z => by rw [z, h2] at he; exact n2 _ _ (Option.some.inj he).symm) (fun z => by rw [z, h3] at he; exact n2 _ _ (Option.some.inj he).symm) (fun z => by rw [z, h4] at he; exact n2 _ _ (Option.some.inj he).symm)]
    exact he
  refine ⟨⟨⟨mo, key _ _ g1 (by intros; simp) (by intros; simp)⟩, ?_⟩, g3, fun i hi => ⟨(g4 i hi).1, key _ _ (g4 i hi).2 (by intros; simp) (by intros; simp)⟩⟩
  rcases g2 with g2 | ⟨N, f, e1, e2⟩
  · exact Or.inl g2
  · exact Or.inr ⟨N, f, key _ _ e1 (by intros; simp) (by intros; simp), e2⟩
/-- rows moved up from place i on -/
def sp_sh (tm : Nat → Int64) (n i : Nat) : Nat → Int64 := fun q => if i < q ∧ q ≤ n then tm (q - 1) else tm q
def sp_in (tm : Nat → Int64) (n i : Nat) (x : Int64) : Nat → Int64 := vp_updL (sp_sh tm n i) i x
/-- the first k are gone -/
def sp_rm (tm : Nat → Int64) (n k : Nat) : Nat → Int64 := fun q => if q + k < n then tm (q + k) else tm q
theorem sp_sh_n (tm : Nat → Int64) (n : Nat) : sp_sh tm n n = tm := by
  funext q
  unfold sp_sh
  rw [if_neg (by omega)]
theorem sp_sh_s (tm : Nat → Int64) {n i : Nat} (hi : i < n) : vp_updL (sp_sh tm n (i + 1)) (i + 1) (sp_sh tm n (i + 1) i) = sp_sh tm n i := by
  funext q
  unfold vp_updL sp_sh
  by_cases h1 : q = i + 1
  · subst h1
    rw [if_pos rfl, if_neg (by omega), if_pos (by omega)]
    rfl
  · rw [if_neg h1]
    by_cases h2 : i + 1 < q ∧ q ≤ n
    · rw [if_pos h2, if_pos (by omega)]
    · rw [if_neg h2, if_neg (by omega)]
theorem sp_rm_s (tm : Nat → Int64) {k i : Nat} (hk : 0 < k) (hi : k ≤ i) : vp_updL (sp_rm tm i k) (i - k) (sp_rm tm i k i) = sp_rm tm (i + 1) k := by
  funext q
  unfold vp_updL sp_rm
  by_cases h1 : q = i - k
  · subst h1
    rw [if_pos rfl, if_neg (by omega), if_pos (by omega)]
    congr 1
    omega
  · rw [if_neg h1]
    by_cases h2 : q + k < i
    · rw [if_pos h2, if_pos (by omega)]
    · rw [if_neg h2, if_neg (by omega)]
theorem sp_rm_k (tm : Nat → Int64) (k : Nat) : sp_rm tm k k = tm := by
  funext q
  unfold sp_rm
  rw [if_neg (by omega)]
section CR2
variable {G : jx_G} {d a ta va sa fl nF sz n : Nat} {nm t v : Int64} {wk : Int32} {tm vl ss : Nat → Int64} {M : jx_H} {Z : Option Value → jx_H → Nat → Prop}
theorem c_R_insert {pl : Nat} (hp : pl ≤ n) (hn : n < 60) (h : kr_H M a ta va sa nm fl nF n wk tm vl ss) (k : ∀ M', kr_H M' a ta va sa nm fl nF (n + 1) wk (sp_in tm n pl t) (sp_in vl n pl v) ss → kr_F a ta va sa M M' → Z none M' sz) : jx_Cr md_R_insert G d [.ref a, .int (nI pl), .long t, .long v] M sz 0 0 Z := by
  refine jx_ent rfl (Nat.le_of_ble_eq_true rfl) (l := [some (.ref a), some (.int (nI pl)), some (.long t), none, some (.long v), none, none]) (by simp [jx_le, jx_eas, Value.category]) (fun hlt => ?_)
  have loop : ∀ (j i : Nat) (M1 : jx_H), pl + j = i → i ≤ n → kr_H M1 a ta va sa nm fl nF n wk (sp_sh tm n i) (sp_sh vl n i) ss → kr_F a ta va sa M M1 → jx_V md_R_insert [] G (jx_rm d 0 0) (jx_Q1 G 0 0 Z) 6 [some (.ref a), some (.int (nI pl)), some (.long t), none, some (.long v), none, some (.int (nI i))] [] M1 sz 0 0 := by
    intro j
    induction j with
    | zero =>
      intro i M1 hi hin h1 hf
      refine jx_iload d_R_insert_6 rfl ?_
      refine jx_iload_n (i := 1) d_R_insert_8 rfl rfl ?_
      refine jx_icmp_le (tgt := 50) d_R_insert_9 (by decide) (fun c9 => ?_) (fun c9 => ?_)
      · have e : i = pl := by omega
        subst e
        have h2 := h1.ut (sp_in tm n i t)
        have h3 := h2.uv (sp_in vl n i v)
        have h4 := h3.ua (n + 1) wk
        refine jx_aload_n (i := 0) d_R_insert_50 rfl rfl ?_
        refine jx_getf d_R_insert_51 gf_R_9 h1.1 rfl ?_
        refine jx_iload_n (i := 1) d_R_insert_54 rfl rfl ?_
        refine jx_lload_n (i := 2) d_R_insert_55 rfl rfl ?_
        refine jx_last (t0 := 1) d_R_insert_56 h1.2.1 rfl (vp_in_nI (by omega) (by omega)) ?_
        rw [nI_clamp (by omega)]
        refine jx_aload_n (i := 0) d_R_insert_57 rfl rfl ?_
        refine jx_getf d_R_insert_58 gf_R_15 h2.1 rfl ?_
        refine jx_iload_n (i := 1) d_R_insert_61 rfl rfl ?_
        refine jx_lload d_R_insert_62 rfl ?_
        refine jx_last (t0 := 1) d_R_insert_64 h2.2.2.1 rfl (vp_in_nI (by omega) (by omega)) ?_
        rw [nI_clamp (by omega)]
        refine jx_aload_n (i := 0) d_R_insert_65 rfl rfl ?_
        refine jx_dup d_R_insert_66 rfl ?_
        refine jx_getf d_R_insert_67 gf_R_18 h3.1 rfl ?_
        refine jx_iconst (v := 1) d_R_insert_70 (by decide) ?_
        refine jx_iadd d_R_insert_71 ?_
        rw [nI_1]
        refine jx_putf d_R_insert_72 pf_R_18 h3.1 (Nat.le_of_ble_eq_true rfl) rfl rfl ?_
        exact jx_vret d_R_insert_75 rfl (by omega) (by omega) (k _ h4 hf.ut.uv.ua)
      · exact absurd ((nI_leI (by omega) (by omega)).mpr (by omega)) c9
    | succ j ih =>
      intro i M1 hi hin h1 hf
      obtain ⟨i, rfl⟩ : ∃ z, i = z + 1 := ⟨i - 1, by omega⟩
      have h2 := h1.ut (sp_sh tm n i)
      have h3 := h2.uv (sp_sh vl n i)
      refine jx_iload d_R_insert_6 rfl ?_
      refine jx_iload_n (i := 1) d_R_insert_8 rfl rfl ?_
      refine jx_icmp_le (tgt := 50) d_R_insert_9 (by decide) (fun c9 => ?_) (fun c9 => ?_)
      · exact absurd ((nI_leI (by omega) (by omega)).mp c9) (by omega)
      · refine jx_aload_n (i := 0) d_R_insert_12 rfl rfl ?_
        refine jx_getf d_R_insert_13 gf_R_9 h1.1 rfl ?_
        refine jx_iload d_R_insert_16 rfl ?_
        refine jx_aload_n (i := 0) d_R_insert_18 rfl rfl ?_
        refine jx_getf d_R_insert_19 gf_R_9 h1.1 rfl ?_
        refine jx_iload d_R_insert_22 rfl ?_
        refine jx_iconst (v := 1) d_R_insert_24 (by decide) ?_
        refine jx_isub d_R_insert_25 ?_
        rw [nI_pred]
        refine jx_lald (t0 := 1) d_R_insert_26 h1.2.1 rfl (vp_in_nI (by omega) (by omega)) ?_
        refine jx_last (t0 := 1) d_R_insert_27 h1.2.1 rfl (vp_in_nI (by omega) (by omega)) ?_
        rw [nI_clamp (by omega), nI_clamp (by omega), sp_sh_s tm (by omega)]
        refine jx_aload_n (i := 0) d_R_insert_28 rfl rfl ?_
        refine jx_getf d_R_insert_29 gf_R_15 h2.1 rfl ?_
        refine jx_iload d_R_insert_32 rfl ?_
        refine jx_aload_n (i := 0) d_R_insert_34 rfl rfl ?_
        refine jx_getf d_R_insert_35 gf_R_15 h2.1 rfl ?_
        refine jx_iload d_R_insert_38 rfl ?_
        refine jx_iconst (v := 1) d_R_insert_40 (by decide) ?_
        refine jx_isub d_R_insert_41 ?_
        rw [nI_pred]
        refine jx_lald (t0 := 1) d_R_insert_42 h2.2.2.1 rfl (vp_in_nI (by omega) (by omega)) ?_
        refine jx_last (t0 := 1) d_R_insert_43 h2.2.2.1 rfl (vp_in_nI (by omega) (by omega)) ?_
        rw [nI_clamp (by omega), nI_clamp (by omega), sp_sh_s vl (by omega)]
        refine jx_iincM d_R_insert_44 rfl (Nat.le_of_ble_eq_true rfl) (jx_e7_6 (by trivial)) ?_
        refine jx_goto (tgt := 6) d_R_insert_47 (by decide) ?_
        rw [pk_m1]
        exact ih i _ (by omega) (by omega) h3 hf.ut.uv
  refine jx_aload_n (i := 0) d_R_insert_0 rfl rfl ?_
  refine jx_getf d_R_insert_1 gf_R_18 h.1 rfl ?_
  refine jx_istore d_R_insert_4 (Nat.le_of_ble_eq_true rfl) (jx_e7_6 (by trivial)) ?_
  exact loop (n - pl) n M (by omega) (by omega) (by rw [sp_sh_n, sp_sh_n]; exact h) kr_F.rf
theorem c_R_removeFirst {g : Nat} (hg : 0 < g) (hgn : g ≤ n) (hn : n ≤ 60) (h : kr_H M a ta va sa nm fl nF n wk tm vl ss) (k : ∀ M', kr_H M' a ta va sa nm fl nF (n - g) wk (sp_rm tm n g) (sp_rm vl n g) ss → kr_F a ta va sa M M' → Z none M' sz) : jx_Cr md_R_removeFirst G d [.ref a, .int (nI g)] M sz 0 0 Z := by
  refine jx_ent rfl (Nat.le_of_ble_eq_true rfl) (l := [some (.ref a), some (.int (nI g)), none]) (by simp [jx_le, jx_eas, Value.category]) (fun hlt => ?_)
  have loop : ∀ (j i : Nat) (M1 : jx_H), i + j = n → g ≤ i → kr_H M1 a ta va sa nm fl nF n wk (sp_rm tm i g) (sp_rm vl i g) ss → kr_F a ta va sa M M1 → jx_V md_R_removeFirst [] G (jx_rm d 0 0) (jx_Q1 G 0 0 Z) 2 [some (.ref a), some (.int (nI g)), some (.int (nI i))] [] M1 sz 0 0 := by
    intro j
    induction j with
    | zero =>
      intro i M1 hi hgi h1 hf
      refine jx_iload_n (i := 2) d_R_removeFirst_2 rfl rfl ?_
      refine jx_aload_n (i := 0) d_R_removeFirst_3 rfl rfl ?_
      refine jx_getf d_R_removeFirst_4 gf_R_18 h1.1 rfl ?_
      refine jx_icmp_ge (tgt := 44) d_R_removeFirst_7 (by decide) (fun c7 => ?_) (fun c7 => ?_)
      · have e : i = n := by omega
        subst e
        have h4 := h1.ua (i - g) wk
        refine jx_aload_n (i := 0) d_R_removeFirst_44 rfl rfl ?_
        refine jx_dup d_R_removeFirst_45 rfl ?_
        refine jx_getf d_R_removeFirst_46 gf_R_18 h1.1 rfl ?_
        refine jx_iload_n (i := 1) d_R_removeFirst_49 rfl rfl ?_
        refine jx_isub d_R_removeFirst_50 ?_
        rw [pk_sub (by omega)]
        refine jx_putf d_R_removeFirst_51 pf_R_18 h1.1 (Nat.le_of_ble_eq_true rfl) rfl rfl ?_
        exact jx_vret d_R_removeFirst_54 rfl (by omega) (by omega) (k _ h4 hf.ua)
      · exact absurd ((nI_leI (by omega) (by omega)).mpr (by omega)) c7
    | succ j ih =>
      intro i M1 hi hgi h1 hf
      have h2 := h1.ut (sp_rm tm (i + 1) g)
      have h3 := h2.uv (sp_rm vl (i + 1) g)
      refine jx_iload_n (i := 2) d_R_removeFirst_2 rfl rfl ?_
      refine jx_aload_n (i := 0) d_R_removeFirst_3 rfl rfl ?_
      refine jx_getf d_R_removeFirst_4 gf_R_18 h1.1 rfl ?_
      refine jx_icmp_ge (tgt := 44) d_R_removeFirst_7 (by decide) (fun c7 => ?_) (fun c7 => ?_)
      · exact absurd ((nI_leI (by omega) (by omega)).mp c7) (by omega)
      · refine jx_aload_n (i := 0) d_R_removeFirst_10 rfl rfl ?_
        refine jx_getf d_R_removeFirst_11 gf_R_9 h1.1 rfl ?_
        refine jx_iload_n (i := 2) d_R_removeFirst_14 rfl rfl ?_
        refine jx_iload_n (i := 1) d_R_removeFirst_15 rfl rfl ?_
        refine jx_isub d_R_removeFirst_16 ?_
        rw [pk_sub (by omega)]
        refine jx_aload_n (i := 0) d_R_removeFirst_17 rfl rfl ?_
        refine jx_getf d_R_removeFirst_18 gf_R_9 h1.1 rfl ?_
        refine jx_iload_n (i := 2) d_R_removeFirst_21 rfl rfl ?_
        refine jx_lald (t0 := 1) d_R_removeFirst_22 h1.2.1 rfl (vp_in_nI (by omega) (by omega)) ?_
        refine jx_last (t0 := 1) d_R_removeFirst_23 h1.2.1 rfl (vp_in_nI (by omega) (by omega)) ?_
        rw [nI_clamp (by omega), nI_clamp (by omega), sp_rm_s tm hg hgi]
        refine jx_aload_n (i := 0) d_R_removeFirst_24 rfl rfl ?_
        refine jx_getf d_R_removeFirst_25 gf_R_15 h2.1 rfl ?_
        refine jx_iload_n (i := 2) d_R_removeFirst_28 rfl rfl ?_
        refine jx_iload_n (i := 1) d_R_removeFirst_29 rfl rfl ?_
        refine jx_isub d_R_removeFirst_30 ?_
        rw [pk_sub (by omega)]
        refine jx_aload_n (i := 0) d_R_removeFirst_31 rfl rfl ?_
        refine jx_getf d_R_removeFirst_32 gf_R_15 h2.1 rfl ?_
        refine jx_iload_n (i := 2) d_R_removeFirst_35 rfl rfl ?_
        refine jx_lald (t0 := 1) d_R_removeFirst_36 h2.2.2.1 rfl (vp_in_nI (by omega) (by omega)) ?_
        refine jx_last (t0 := 1) d_R_removeFirst_37 h2.2.2.1 rfl (vp_in_nI (by omega) (by omega)) ?_
        rw [nI_clamp (by omega), nI_clamp (by omega), sp_rm_s vl hg hgi]
        refine jx_iinc d_R_removeFirst_38 rfl (Nat.le_of_ble_eq_true rfl) (jx_e3_2 (by trivial)) ?_
        refine jx_goto (tgt := 2) d_R_removeFirst_41 (by decide) ?_
        rw [nI_1]
        exact ih (i + 1) _ (by omega) (by omega) h3 hf.ut.uv
  refine jx_iload_n (i := 1) d_R_removeFirst_0 rfl rfl ?_
  refine jx_istore_n (i := 2) d_R_removeFirst_1 rfl (Nat.le_of_ble_eq_true rfl) (jx_e3_2 (by trivial)) ?_
  exact loop (n - g) g M (by omega) (by omega) (by rw [sp_rm_k, sp_rm_k]; exact h) kr_F.rf
end CR2
