/-! PART 25: KeyedFolds: take, codeOf, turnAway -/
/-- where a row of time t goes -/
def sp_tp (t : Int64) (q : sp_key) : Nat := sp_ld (fun j => decide (q.2.2.1 j < t + 1)) q.1
/-- a key with a row more -/
def sp_tq (fd : sp_fd) (nF : Nat) (t v : Int64) (q : sp_key) : sp_key := (q.1 + 1, sp_ws (sp_c3 fd (q.1 + 1) (sp_tp t q)) q.2.1 nF, sp_in q.2.2.1 q.1 (sp_tp t q) t, sp_in q.2.2.2.1 q.1 (sp_tp t q) v,
  sp_ut nF (sp_n3 fd (sp_in q.2.2.1 q.1 (sp_tp t q) t) (sp_in q.2.2.2.1 q.1 (sp_tp t q) v) q.2.2.2.2 (q.1 + 1) (sp_tp t q)) q.2.2.2.2)
/-- a key without rows -/
def sp_k0 (fd : sp_fd) (nF : Nat) : sp_key := (0, 0, fun _ => 0, fun _ => 0, sp_ut nF (fun f => (fd f).2.1) (fun _ => 0))
/-- is a row a double? -/
def sp_db (nK : Nat) (nm : Nat → Int64) (kd : Nat → sp_key) (key t v : Int64) (en : Int32) : Bool := match sp_ix (fun j => nm j == key) nK with
  | some j => sp_ex (fun i => (kd j).2.2.2.1 i == v && decide (sp_abs ((kd j).2.2.1 i - t) < en.toInt64)) (kd j).1
  | none => false
def sp_co (late : Bool) (lr fr : Int32) (dbl : Bool) (cause : Option Nat) : Int32 := if late = true ∧ lr = 0 then 1 else if late = true ∧ lr = 1 then 2 else if dbl = true then 3 else if cause = none then 0 else if fr = 0 then 4 else if fr = 1 then 5 else 6
theorem kf_b_ne0 {b : Bool} (h : ¬ kf_b b = 0) : b = true := by
  cases b with
  | true => rfl
  | false => exact absurd rfl h
/-- ArrayList's empty array is in no picture -/
theorem jx_eano {y : jx_md} {hh : jx_h4} {G : jx_G} {R : Room} {Q : Array Value → State → List Frame → State → Prop} {pc : Nat} {l : List (Option Value)} {st : List Value} {M : jx_H} {sz kc ks : Nat} (k : M (jx_ea G) = none → jx_V y hh G R Q pc l st M sz kc ks) : jx_V y hh G R Q pc l st M sz kc ks := by
  intro p L e s m args below meth c C K H locs ls hR hS hL
  have : M (jx_ea G) = none := by
    cases h : M (jx_ea G) with
    | none => rfl
    | some e => exact absurd (hR.2.2 _ _ h).1 K.2.2.2.2.2.1.out
  exact k this p L e s m args below meth c C K H locs ls hR hS hL
section CK5
variable {G : jx_G} {d a lo far kar nF nK sz : Nat} {la wi en pe lr fr tk lc db fc le : Int32} {gt lt t v key : Int64} {fo ko : Nat → Nat} {nm : Nat → Int64} {kd : Nat → sp_key} {fd : sp_fd} {fw : Nat → Nat → Int64} {M : jx_H} {Z : Option Value → jx_H → Nat → Prop}
theorem v_K_take {kc ks j : Nat} (hd : 4 < d) (hkc : kc ≤ 5) (hks : ks ≤ 178) (hj : j < nK) (h60 : (kd j).1 < 60) (hK : M a = some (kf_K la wi en pe (a + 1) (a + 2) (a + 3) (a + 5) (a + 7) lr fr gt lt tk lc db fc le)) (hF : kC_F G M a lo far nF fo fd fw) (hQ : kC_K G M a lo nF kar nK ko nm kd)
    (k : ∀ M', M' a = some (kf_K la wi en pe (a + 1) (a + 2) (a + 3) (a + 5) (a + 7) lr fr (if t < gt then gt else t) lt (tk + 1) lc db fc le) → kC_K G M' a lo nF kar nK ko nm (va_up kd j (sp_tq fd nF t v (kd j))) → (∀ q, q ≠ a → q < lo → M' q = M q) → Z none M' sz) : jx_V md_K_take [] G (jx_rm d 5 178) (jx_Q1 G 5 178 Z) 45 [some (.ref a), some (.long key), none, some (.long t), none, some (.long v), none, some (.int (nI j))] [] M sz kc ks := by
  have hnK := hQ.2.1
  have hlo := hF.2.2.1
  obtain ⟨mo, hA⟩ := hQ.1.1
  have hkj := hQ.2.2.2.1 j hj
  refine jx_aload_n (i := 0) d_K_take_45 rfl rfl ?_
  refine jx_getf d_K_take_46 gf_K_16 hK rfl ?_
  refine jx_iload d_K_take_49 rfl ?_
  refine jx_callV1 d_K_take_51 mv_K_125 hA rfl (jx_ok_rm (by omega) (Nat.le_of_ble_eq_true rfl)) (Nat.le_of_ble_eq_true rfl) (jx_rmc (by omega)) (jx_rms (by omega)) (c_L_get (d := 2) (by omega) hQ.1 hj ?_)
  dsimp only [Option.toList, List.cons_append, List.nil_append]
  refine jx_castn d_K_take_54 hkj.2.1.1 rfl nk_K_196 nx_R_KeyedFolds_KeyRows ?_
  refine jx_lload_n (i := 3) d_K_take_57 rfl rfl ?_
  refine jx_lload d_K_take_58 rfl ?_
  refine jx_callV2 d_K_take_60 mv_K_298 hkj.2.1.1 rfl (jx_ok_rm (by omega) (Nat.le_of_ble_eq_true rfl)) (Nat.le_of_ble_eq_true rfl) (jx_rmc (by omega)) (jx_rms (by omega)) (c_R_take (d := 4) (by omega) h60 (pl := sp_tp t (kd j)) rfl rfl rfl hkj.2.1 hF.1 ?_)
  dsimp only [Option.toList, List.cons_append, List.nil_append]
  intro M1 h1 hf1
  try dsimp only [Option.toList, List.cons_append, List.nil_append]
  have hkj2 := hkj.2.2
  have hK1 : M1 a = some (kf_K la wi en pe (a + 1) (a + 2) (a + 3) (a + 5) (a + 7) lr fr gt lt tk lc db fc le) := by
    rw [hf1 a (by omega) (by omega) (by omega) (by omega)]
    exact hK
  have hQ1 := hQ.set hj (q' := sp_tq fd nF t v (kd j)) (by omega) (by show (kd j).1 + 1 ≤ 60; omega) h1 hf1
  refine jx_aload_n (i := 0) d_K_take_63 rfl rfl ?_
  refine jx_dup d_K_take_64 rfl ?_
  refine jx_getf d_K_take_65 gf_K_54 hK1 rfl ?_
  refine jx_iconst (v := 1) d_K_take_68 (by decide) ?_
  refine jx_iadd d_K_take_69 ?_
  refine jx_putf d_K_take_70 pf_K_54 hK1 (Nat.le_of_ble_eq_true rfl) rfl rfl ?_
  refine jx_aload_n (i := 0) d_K_take_73 rfl rfl ?_
  refine jx_aload_n (i := 0) d_K_take_74 rfl rfl ?_
  refine jx_getf d_K_take_75 gf_K_47 (jx_up_s _ _ _) rfl ?_
  refine jx_lload_n (i := 3) d_K_take_78 rfl rfl ?_
  refine jx_mmaxl d_K_take_79 ms_K_301.1.1 (Nat.succ_le_succ (Nat.zero_le _)) (jx_rmm (Nat.le_of_ble_eq_true rfl)) (jx_rmc (by omega)) (jx_rms (by omega)) ?_
  refine jx_putf d_K_take_82 pf_K_47 (jx_up_s _ _ _) (Nat.le_of_ble_eq_true rfl) rfl rfl ?_
  exact jx_vret d_K_take_85 rfl (by omega) (by omega) (by
    refine k _ (jx_up_s _ _ _) (hQ1.to (fun q hq => ?_)) (fun q q1 q2 => ?_)
    · rw [jx_up_n _ _ (by omega), jx_up_n _ _ (by omega)]
    · rw [jx_up_n _ _ q1, jx_up_n _ _ q1]
      exact hf1 q (by omega) (by omega) (by omega) (by omega))
theorem c_K_take_old {j : Nat} (hd : 4 < d) (hj : sp_ix (fun j => nm j == key) nK = some j) (h60 : (kd j).1 < 60) (hK : M a = some (kf_K la wi en pe (a + 1) (a + 2) (a + 3) (a + 5) (a + 7) lr fr gt lt tk lc db fc le)) (hF : kC_F G M a lo far nF fo fd fw) (hQ : kC_K G M a lo nF kar nK ko nm kd)
    (k : ∀ M', M' a = some (kf_K la wi en pe (a + 1) (a + 2) (a + 3) (a + 5) (a + 7) lr fr (if t < gt then gt else t) lt (tk + 1) lc db fc le) → kC_K G M' a lo nF kar nK ko nm (va_up kd j (sp_tq fd nF t v (kd j))) → (∀ q, q ≠ a → q < lo → M' q = M q) → Z none M' sz) : jx_Cr md_K_take G d [.ref a, .long key, .long t, .long v] M sz 5 178 Z := by
  refine jx_ent rfl (Nat.le_of_ble_eq_true rfl) (l := [some (.ref a), some (.long key), none, some (.long t), none, some (.long v), none, none]) (by simp [jx_le, jx_eas, Value.category]) (fun hlt => ?_)
  have hnK := hQ.2.1
  have hj1 := (sp_ix_lt hj).1
  refine jx_aload_n (i := 0) d_K_take_0 rfl rfl ?_
  refine jx_lload_n (i := 1) d_K_take_1 rfl rfl ?_
  refine jx_callV1 d_K_take_2 mv_K_190 hK rfl (jx_ok_rm (by omega) (Nat.le_of_ble_eq_true rfl)) (Nat.le_of_ble_eq_true rfl) (jx_rmc (by omega)) (jx_rms (by omega)) (c_K_placeOfKey (d := 3) (by omega) hK hQ.kn ?_)
  dsimp only [Option.toList, List.cons_append, List.nil_append]
  rw [hj]
  refine jx_istore d_K_take_5 (Nat.le_of_ble_eq_true rfl) (jx_e8_7 (by trivial)) ?_
  refine jx_iload d_K_take_7 rfl ?_
  refine jx_if_ge (tgt := 45) d_K_take_9 (by decide) (fun c9 => ?_) (fun c9 => ?_)
  · exact v_K_take hd (by omega) (by omega) hj1 h60 hK hF hQ k
  · exact absurd (nI_pos' (n := j) (by omega)) c9
theorem c_K_take_new (hd : 6 < d) (hj : sp_ix (fun j => nm j == key) nK = none) (h30 : nK < 30) (hls : lo ≤ sz) (hK : M a = some (kf_K la wi en pe (a + 1) (a + 2) (a + 3) (a + 5) (a + 7) lr fr gt lt tk lc db fc le)) (hF : kC_F G M a lo far nF fo fd fw) (hQ : kC_K G M a lo nF kar nK ko nm kd)
    (k : ∀ M' sz' kar', M' a = some (kf_K la wi en pe (a + 1) (a + 2) (a + 3) (a + 5) (a + 7) lr fr (if t < gt then gt else t) lt (tk + 1) lc db fc le) → kC_K G M' a lo nF kar' (nK + 1) (va_up ko nK sz) (va_up nm nK key) (va_up kd nK (sp_tq fd nF t v (sp_k0 fd nF))) → (∀ q, q ≠ a → q ≠ a + 2 → q < lo → M' q = M q) → sz ≤ sz' → Z none M' sz') : jx_Cr md_K_take G d [.ref a, .long key, .long t, .long v] M sz 5 178 Z := by
  refine jx_ent rfl (Nat.le_of_ble_eq_true rfl) (l := [some (.ref a), some (.long key), none, some (.long t), none, some (.long v), none, none]) (by simp [jx_le, jx_eas, Value.category]) (fun hlt => ?_)
  have hnF := hF.1.2.1
  have hlo := hF.2.2.1
  obtain ⟨mo, hA⟩ := hQ.1.1
  have hasz := hlt a _ hK
  refine jx_eano (fun hE => ?_)
  refine jx_aload_n (i := 0) d_K_take_0 rfl rfl ?_
  refine jx_lload_n (i := 1) d_K_take_1 rfl rfl ?_
  refine jx_callV1 d_K_take_2 mv_K_190 hK rfl (jx_ok_rm (by omega) (Nat.le_of_ble_eq_true rfl)) (Nat.le_of_ble_eq_true rfl) (jx_rmc (by omega)) (jx_rms (by omega)) (c_K_placeOfKey (d := 3) (by omega) hK hQ.kn ?_)
  dsimp only [Option.toList, List.cons_append, List.nil_append]
  rw [hj]
  refine jx_istore d_K_take_5 (Nat.le_of_ble_eq_true rfl) (jx_e8_7 (by trivial)) ?_
  refine jx_iload d_K_take_7 rfl ?_
  refine jx_if_ge (tgt := 45) d_K_take_9 (by decide) (fun c9 => ?_) (fun c9 => ?_)
  · exact absurd c9 (by decide)
  · refine jx_aload_n (i := 0) d_K_take_12 rfl rfl ?_
    refine jx_getf d_K_take_13 gf_K_16 hK rfl ?_
    refine jx_callV0 d_K_take_16 mv_K_92 hA rfl (jx_ok_rm (by omega) (Nat.le_of_ble_eq_true rfl)) (Nat.le_of_ble_eq_true rfl) (jx_rmc (by omega)) (jx_rms (by omega)) (c_L_size (d := 0) hQ.1 ?_)
    dsimp only [Option.toList, List.cons_append, List.nil_append]
    refine jx_istore d_K_take_19 (Nat.le_of_ble_eq_true rfl) (jx_e8_7 (by trivial)) ?_
    refine jx_aload_n (i := 0) d_K_take_21 rfl rfl ?_
    refine jx_getf d_K_take_22 gf_K_16 hK rfl ?_
    refine jx_new (k := 1) nt_R d_K_take_25 rfl nw_R no_R nk_K_196 ni_R nd_R nz_R (jx_rmc (by omega)) (jx_rms (by omega)) (fun hno => ?_)
    have up0 : ∀ q e, M q = some e → ∀ e', jx_up M sz e' q = some e := fun q e h e' => (jx_up_n _ _ (Nat.ne_of_lt (hlt q _ h))).trans h
    have hK0 := up0 _ _ hK (.inl (1, [.long 0, .null, .null, .null, .int 0, .int 0, .null]))
    have hF0 := hF.to (M' := jx_up M sz (.inl (1, [.long 0, .null, .null, .null, .int 0, .int 0, .null]))) (fun q hq => jx_up_n _ _ (by omega))
    refine jx_dup d_K_take_28 rfl ?_
    refine jx_lload_n (i := 1) d_K_take_29 rfl rfl ?_
    refine jx_aload_n (i := 0) d_K_take_30 rfl rfl ?_
    refine jx_getf d_K_take_31 gf_K_10 hK0 rfl ?_
    refine jx_aload_n (i := 0) d_K_take_34 rfl rfl ?_
    refine jx_callV0 d_K_take_35 mv_K_291 hK0 rfl (jx_ok_rm (by omega) (Nat.le_of_ble_eq_true rfl)) (Nat.le_of_ble_eq_true rfl) (jx_rmc (by omega)) (jx_rms (by omega)) (c_K_startStates (d := 3) (by omega) hK0 hF0.1 ?_)
    dsimp only [Option.toList, List.cons_append, List.nil_append]
    have hobj : jx_up (jx_up M sz (.inl (1, [.long 0, .null, .null, .null, .int 0, .int 0, .null]))) (sz + 1) (kf_la nF (sp_ut nF (fun f => (fd f).2.1) (fun _ => 0))) sz = some (.inl (1, [.long 0, .null, .null, .null, .int 0, .int 0, .null])) := (jx_up_n _ _ (by omega)).trans (jx_up_s _ _ _)
    refine jx_callI3 d_K_take_38 mi_K_295 (jx_ok_rm (by omega) (Nat.le_of_ble_eq_true rfl)) (Nat.le_of_ble_eq_true rfl) (jx_rmc (by omega)) (jx_rms (by omega)) (c_R_init (d := 0) hobj (jx_up_s _ _ _) ?_)
    dsimp only [Option.toList, List.cons_append, List.nil_append]
    intro M1 h1 hf1 hlt1
    try dsimp only [Option.toList, List.cons_append, List.nil_append]
    refine jx_eano (fun hE1 => ?_)
    have hf1' : ∀ q, q < sz → M1 q = M q := fun q hq => by rw [hf1 q (by omega) (by omega), jx_up_n _ _ (by omega), jx_up_n _ _ (by omega)]
    have hL1 : kf_L G M1 1 (a + 2) kar nK ko := by
      obtain ⟨⟨mo, g1⟩, g2⟩ := hQ.1
      refine ⟨⟨mo, by rw [hf1' _ (hlt _ _ g1)]; exact g1⟩, ?_⟩
      rcases g2 with g2 | ⟨N, f, e1, e2⟩
      · exact Or.inl g2
      · exact Or.inr ⟨N, f, by rw [hf1' _ (hlt _ _ e1)]; exact e1, e2⟩
    obtain ⟨mo1, hA1⟩ := hL1.1
    refine jx_callV1 d_K_take_41 mv_K_112 hA1 rfl (jx_ok_rm (by omega) (Nat.le_of_ble_eq_true rfl)) (Nat.le_of_ble_eq_true rfl) (jx_rmc (by omega)) (jx_rms (by omega)) (c_A_add (d := 6) (by omega) (by omega) hL1 h1.1 rfl (by omega) nx_R_java_lang_Object (fun i hi => ⟨_, by have := (hQ.2.2.2.1 i hi).2.1.1; rw [hf1' _ (hlt _ _ this)]; exact this⟩) ?_)
    dsimp only [Option.toList, List.cons_append, List.nil_append]
    intro M2 sz2 kar2 hL2 hf2 hk2 hs2 hs2' hlt2
    try dsimp only [Option.toList, List.cons_append, List.nil_append]
    refine jx_eano (fun hE2 => ?_)
    have karq : ∀ q, q < lo → q ≠ a + 2 → M2 q = M q := by
      intro q q1 q2
      by_cases q3 : q = kar
      · rcases hQ.2.2.1 with z | z
        · rw [q3, z.2, hE2, hE]
        · omega
      · rw [hf2 q q2 q3 (by omega)]
        exact hf1' q (by omega)
    have hko : ∀ j, j < nK → ko j < sz := fun j hj => hlt _ _ (hQ.2.2.2.1 j hj).2.1.1
    have hko3 : ∀ j, j < nK → ko j + 3 < sz := fun j hj => hlt _ _ (hQ.2.2.2.1 j hj).2.1.2.2.1
    have hK2 : M2 a = some (kf_K la wi en pe (a + 1) (a + 2) (a + 3) (a + 5) (a + 7) lr fr gt lt tk lc db fc le) := by
      rw [karq a (by omega) (by omega)]
      exact hK
    have hF2 := hF.to (M' := M2) (fun q hq => karq q (by omega) (by omega))
    have cellk : ∀ q e, M1 q = some e → (∀ N f, e ≠ kf_oa N f) → q ≠ a + 2 → q < sz + 4 → M2 q = some e := by
      intro q e he hno q1 q2
      by_cases q3 : q = kar
      · rcases hL1.2 with z | ⟨N, f, e1, e2⟩
        · rw [q3, z.2, hE1] at he
          cases he
        · rw [q3, e1] at he
          exact absurd (Option.some.inj he).symm (hno _ _)
      · rw [hf2 q q1 q3 (by omega)]
        exact he
    have hQ2 : kC_K G M2 a lo nF kar2 (nK + 1) (va_up ko nK sz) (va_up nm nK key) (va_up kd nK (sp_k0 fd nF)) := by
      refine ⟨hL2, by omega, Or.inr ?_, fun j hj => ?_, fun i j hij hj => ?_⟩
      · rcases hk2 with z | z
        · rcases hQ.2.2.1 with w | w
          · exfalso
            rcases hL2.2 with u | ⟨N, f, e1, e2⟩
            · omega
            · rw [z, w.2, hE2] at e1
              cases e1
          · rw [z]; exact w
        · omega
      · by_cases e : j = nK
        · subst e
          simp only [va_up, if_true]
          refine ⟨Nat.zero_le _, ?_, hls⟩
          obtain ⟨c1, c2, c3, c4, c5⟩ := h1
          exact ⟨cellk _ _ c1 (by intros; simp) (by omega) (by omega), cellk _ _ c2 (by intros; simp) (by omega) (by omega), cellk _ _ c3 (by intros; simp) (by omega) (by omega), cellk _ _ c4 (by intros; simp) (by omega) (by omega), c5⟩
        · simp only [va_up, if_neg e]
          have hj' : j < nK := by omega
          obtain ⟨c0, ⟨c1, c2, c3, c4, c5⟩, c6⟩ := hQ.2.2.2.1 j hj'
          have l0 := hko3 j hj'
          refine ⟨c0, ⟨cellk _ _ ((hf1' _ (by omega)).trans c1) (by intros; simp) (by omega) (by omega), cellk _ _ ((hf1' _ (by omega)).trans c2) (by intros; simp) (by omega) (by omega), cellk _ _ ((hf1' _ (by omega)).trans c3) (by intros; simp) (by omega) (by omega), cellk _ _ ((hf1' _ (by omega)).trans c4) (by intros; simp) (by omega) (by omega), c5⟩, c6⟩
      · by_cases e : j = nK
        · subst e
          have l0 := hko3 i hij
          simp only [va_up, if_true, if_neg (show i ≠ j by omega)]
          omega
        · simp only [va_up, if_neg e, if_neg (show i ≠ nK by omega)]
          exact hQ.2.2.2.2 i j hij (by omega)
    refine jx_pop d_K_take_44 rfl ?_
    refine v_K_take (by omega) (by omega) (by omega) (Nat.lt_succ_self nK) (by simp only [va_up, if_true]; show 0 < 60; omega) hK2 hF2 hQ2 ?_
    intro M3 g1 g2 g3
    refine k M3 sz2 kar2 g1 ?_ (fun q q1 q2 q3 => (g3 q q1 q3).trans (karq q q3 q2)) (by omega)
    have e1 : (va_up kd nK (sp_k0 fd nF)) nK = sp_k0 fd nF := by simp [va_up]
    rw [e1, bx_uu] at g2
    exact g2
end CK5
