/-! PART 05: the heap's instructions over pictures -/
/-- what the tables say of a field's link: class number k, field i -/
def jx_GF (own : String) (idx k i : Nat) : Prop := ∃ (C : String) (T : u_T) (N : Nat) (ref : String), vwCl[k]? = some (C, T, N) ∧ i < N ∧ (∀ w ∈ u_ws C T N, w ∈ jx_tb) ∧ Cond.fieldLink own idx ref (T i).2.1 (T i).2.2.1 ∈ jx_tb ∧ ((T i).1 = ref ∨ Cond.sameField ref (T i).1 (T i).2.1 (T i).2.2.1 ∈ jx_tb)
/-- and of one that is written: its type; final ones in a constructor of the declarer alone -/
def jx_PF (own nm : String) (idx k i : Nat) (ty : FieldType) : Prop := ∃ (C : String) (T : u_T) (N : Nat) (ref : String) (ty0 : Nat → FieldType), vwCl[k]? = some (C, T, N) ∧ i < N ∧ (∀ w ∈ u_ws C T N, w ∈ jx_tb) ∧ Cond.fieldLink own idx ref (T i).2.1 (T i).2.2.1 ∈ jx_tb ∧ ((T i).1 = ref ∨ Cond.sameField ref (T i).1 (T i).2.1 (T i).2.2.1 ∈ jx_tb) ∧
  (∀ j, j < N → parseFieldDescriptor (T j).2.2.1 = some (ty0 j)) ∧ (∀ a, a < N → ∀ b, b < N → a ≠ b → (T a).2.1 ≠ (T b).2.1) ∧ parseFieldDescriptor (T i).2.2.1 = some ty ∧ ((T i).2.2.2 = false ∨ ((T i).2.2.2 = true ∧ nm = "<init>" ∧ (T i).1 = own))
theorem jx_same {s : State} {args : Array Value} {ref o n d : String} (hts : ∀ w ∈ jx_tb, w.before args s = true) (h : o = ref ∨ Cond.sameField ref o n d ∈ jx_tb) : ∀ x, s.fieldFound? o n d = some x → s.fieldFound? ref n d = some x := by
  intro x hx
  rcases h with h | h
  · rw [← h]; exact hx
  · exact u_same (hts _ h) x hx
theorem jx_one {G : jx_G} {M : jx_H} {sz : Nat} {H : Heap} {a : Nat} {e : jx_E} (hR : jx_R G M sz H) (h : M a = some e) : va_P (jx_D G) vwCl [(a, jx_we G e)] H := fun k q hq => by
  match k, hq with
  | 0, hq => cases hq; exact (hR.2.2 a _ h).2
  | k + 1, hq => simp at hq
theorem jx_tyat {G : jx_G} {t0 ak : Nat} {ty : FieldType} (h : jx_ats[t0]? = some (ak, ty)) : (jx_ty G)[t0]? = some ((jx_D G).1 ak, ty) := by
  simp [jx_ty, h]
theorem jx_oi : Cond.instanceMethod Lib.objectInit ∈ jx_tb := jx_mem 28 (by decide +kernel) rfl
theorem jx_oc : Cond.code Lib.objectInit ⟨#[0xb1]⟩ 1 none ∈ jx_tb := jx_mem 29 (by decide +kernel) rfl
section JXH
variable {y : jx_md} {hh : jx_h4} {G : jx_G} {R : Room} {Q : Array Value → State → List Frame → State → Prop} {pc : Nat} {l : List (Option Value)} {st : List Value} {M : jx_H} {sz kc ks a k i : Nat} {fs : List Value}
theorem jx_getf {idx : Nat} {v : Value} (dc : decode y.2.1 pc = .ok (.getfield idx, 3)) (lk : jx_GF y.1.cls idx k i) (hM : M a = some (.inl (k, fs))) (hv : fs[i]? = some v) (kk : jx_V y hh G R Q (pc + 3) l (v :: st) M sz kc ks) : jx_V y hh G R Q pc l (.ref a :: st) M sz kc ks := by
  intro p L e s m args below meth c C K H locs ls hR hS hL
  obtain ⟨hx, hb, hr, hml, hown, hts, hlk, hnm, hex, hst⟩ := id C
  obtain ⟨C0, T, N, ref, h1, h2, h3, h4, h5⟩ := lk
  exact va_get hx hb hts h3 hown K.1 (jx_one hR hM) 0 rfl h1 i h2 (hts _ h4) (jx_same hts h5) hv dc (kk p L e s m args below meth c C K H locs ls hR hS hL)
theorem jx_putf {idx : Nat} {v : Value} {ty : FieldType} (dc : decode y.2.1 pc = .ok (.putfield idx, 3)) (lk : jx_PF y.1.cls y.1.name idx k i ty) (hM : M a = some (.inl (k, fs))) (hl : i < fs.length) (hn : narrow ty v = v) (hf : fits ty v = true) (kk : jx_V y hh G R Q (pc + 3) l st (jx_up M a (.inl (k, fs.set i v))) sz kc ks) : jx_V y hh G R Q pc l (v :: .ref a :: st) M sz kc ks := by
  intro p L e s m args below meth c C K H locs ls hR hS hL
  obtain ⟨hx, hb, hr, hml, hown, hts, hlk, hnm, hex, hst⟩ := id C
  obtain ⟨C0, T, N, ref, ty0, h1, h2, h3, h4, h5, h6, h7, h8, h9⟩ := lk
  have hP := jx_one hR hM
  have hap := va_apart (own := y.1.cls) hts h3 ty0 h6 h7 K.1 h1
  obtain ⟨r, g1, cell, q1, q2, q3, q4⟩ := hP 0 _ rfl
  have hr0 : r = (C0, T, N) := Option.some.inj (g1.symm.trans h1)
  subst hr0
  obtain ⟨hSl, hfc, kC, hkC, hkind⟩ := K.1.1 k _ h1
  obtain ⟨cf, kf, fi, f, hi, hsl⟩ := hSl i h2
  have hst := (u_facts hfc hkC (u_lays hts h3 h2) hi).1
  have hB : jx_B G ≤ a := (hR.2.2 a _ hM).1
  have hfin : hasFlag f.accessFlags Acc.final = false ∨ (m.cls = cf ∧ meth.name = "<init>") := by
    rcases h9 with h9 | ⟨h9, h10, h11⟩
    · have hlay := hts _ (h3 _ (u_in_lay h2))
      unfold u_lay at hlay
      rw [if_neg (by rw [h9]; decide)] at hlay
      exact Or.inl (u_store hfc hkC hkind hlay hi h8 hn hf).1
    · right
      refine ⟨?_, by rw [hnm]; exact h10⟩
      have hlay := hts _ (h3 _ (u_in_lay h2))
      unfold u_lay at hlay
      rw [if_pos h9] at hlay
      obtain ⟨_, _, c', _, _, _, -, -, hf', -, -, -, hown2, -⟩ := Cond.laysFinal_spec hlay
      have e1 : c' = cf := by have := hi.symm.trans hf'; simp at this; exact this.1.symm
      rw [h11] at hown2
      rw [← e1]; exact Option.some.inj (hown.symm.trans hown2)
  have h6' := u_fits hfc hkC hkind (u_lays hts h3 h2) hi h8 hn hf
  have hslt : f.slot < cell.slots.size := by rw [hsl]; exact k2_hasslot (q4 i h2)
  refine W.putf hx hb hown (hts _ h4) (jx_same hts h5 _ hi) hst hfin q1 (by rw [q3]; exact fun h => by cases h) hslt h6'.1 (by rw [q2, q3]; exact h6'.2) rfl rfl dc ?_
  have ha : a < H.size := (Array.getElem?_eq_some_iff.mp q1).1
  have e1 : (H.setIfInBounds a (cell.setSlot f.slot v))[a]? = some (cell.setSlot f.slot v) := by simp [ha]
  have e2 : (H.setIfInBounds a (cell.setSlot f.slot v)).size = H.size := by simp
  have e3 : ∀ q : Nat, q ≠ a → (H.setIfInBounds a (cell.setSlot f.slot v))[q]? = H[q]? := fun q hq => Array.getElem?_setIfInBounds_ne (fun z => hq z.symm)
  generalize H.setIfInBounds a (cell.setSlot f.slot v) = H' at e1 e2 e3 ⊢
  rw [hsl] at e1 ⊢
  exact kk p L e s m args below meth c C K H' _ ls (hR.set hB e2 e3 ⟨_, h1, t_OB.to (V := updV (vp_V fs) i v) ⟨_, e1, q2, q3, t_set q4 hap h2 v⟩ (fun j _ => vp_updV_set hl v j)⟩) (hS.put e2 e3 hB) hL
theorem jx_iald {ak n t0 : Nat} {f : Nat → Int32} {j : Int32} (dc : decode y.2.1 pc = .ok (.iaload, 1)) (hM : M a = some (.inr (ak, n, .inl f))) (ht : jx_ats[t0]? = some (ak, .int)) (hj : vp_in j n) (kk : jx_V y hh G R Q (pc + 1) l (.int (f j.toNatClampNeg) :: st) M sz kc ks) : jx_V y hh G R Q pc l (.int j :: .ref a :: st) M sz kc ks := by
  intro p L e s m args below meth c C K H locs ls hR hS hL
  obtain ⟨hx, hb, hr, hml, hown, hts, hlk, hnm, hex, hst⟩ := id C
  exact va_iald hx hb K.1 (jx_one hR hM) 0 t0 rfl (jx_tyat ht) hj dc (kk p L e s m args below meth c C K H locs ls hR hS hL)
theorem jx_lald {ak n t0 : Nat} {f : Nat → Int64} {j : Int32} (dc : decode y.2.1 pc = .ok (.laload, 1)) (hM : M a = some (.inr (ak, n, .inr (.inl f)))) (ht : jx_ats[t0]? = some (ak, .long)) (hj : vp_in j n) (kk : jx_V y hh G R Q (pc + 1) l (.long (f j.toNatClampNeg) :: st) M sz kc ks) : jx_V y hh G R Q pc l (.int j :: .ref a :: st) M sz kc ks := by
  intro p L e s m args below meth c C K H locs ls hR hS hL
  obtain ⟨hx, hb, hr, hml, hown, hts, hlk, hnm, hex, hst⟩ := id C
  exact va_lald hx hb K.1 (jx_one hR hM) 0 t0 rfl (jx_tyat ht) hj dc (kk p L e s m args below meth c C K H locs ls hR hS hL)
theorem jx_aald {ak n t0 : Nat} {f : Nat → Option Nat} {CC : String} {j : Int32} (dc : decode y.2.1 pc = .ok (.aaload, 1)) (hM : M a = some (.inr (ak, n, .inr (.inr (.inr (.inr f)))))) (ht : jx_ats[t0]? = some (ak, .object CC)) (hj : vp_in j n) (kk : jx_V y hh G R Q (pc + 1) l (va_rf (f j.toNatClampNeg) :: st) M sz kc ks) : jx_V y hh G R Q pc l (.int j :: .ref a :: st) M sz kc ks := by
  intro p L e s m args below meth c C K H locs ls hR hS hL
  obtain ⟨hx, hb, hr, hml, hown, hts, hlk, hnm, hex, hst⟩ := id C
  exact va_aldq hx hb K.1 (jx_one hR hM) 0 t0 rfl (jx_tyat ht) hj dc (kk p L e s m args below meth c C K H locs ls hR hS hL)
theorem jx_alen {ak t0 : Nat} {x : vp_A} {ty : FieldType} (dc : decode y.2.1 pc = .ok (.arraylength, 1)) (hM : M a = some (.inr (ak, x))) (ht : jx_ats[t0]? = some (ak, ty)) (kk : jx_V y hh G R Q (pc + 1) l (.int (nI x.1) :: st) M sz kc ks) : jx_V y hh G R Q pc l (.ref a :: st) M sz kc ks := by
  intro p L e s m args below meth c C K H locs ls hR hS hL
  obtain ⟨hx, hb, hr, hml, hown, hts, hlk, hnm, hex, hst⟩ := id C
  exact va_alen hx hb K.1 (jx_one hR hM) 0 t0 rfl (jx_tyat ht) rfl dc (kk p L e s m args below meth c C K H locs ls hR hS hL)
theorem jx_iast {ak n t0 : Nat} {f : Nat → Int32} {j x : Int32} (dc : decode y.2.1 pc = .ok (.iastore, 1)) (hM : M a = some (.inr (ak, n, .inl f))) (ht : jx_ats[t0]? = some (ak, .int)) (hj : vp_in j n) (kk : jx_V y hh G R Q (pc + 1) l st (jx_up M a (.inr (ak, n, .inl (upd f j.toNatClampNeg x)))) sz kc ks) : jx_V y hh G R Q pc l (.int x :: .int j :: .ref a :: st) M sz kc ks := by
  intro p L e s m args below meth c C K H locs ls hR hS hL
  obtain ⟨hx, hb, hr, hml, hown, hts, hlk, hnm, hex, hst⟩ := id C
  have hB : jx_B G ≤ a := (hR.2.2 a _ hM).1
  refine W.iast hx hb (hR.2.2 a _ hM).2 ((K.1.2 t0 _ (jx_tyat ht)).1 n (fun j => .int (f j))) (fun q => by cases q) (by show ¬ (j < 0 ∨ (arrV _ _ _).slots.size ≤ _); rw [arrV_size]; exact hj) rfl rfl dc fun H1 e1 z oq => ?_
  refine kk p L e s m args below meth c C K H1 _ ls (hR.set hB z oq ?_) (hS.put z oq hB) hL
  show H1[a]? = some (arrV ((jx_D G).1 ak) n (fun q => Value.int (upd f j.toNatClampNeg x q)))
  rw [e1]
  show some ((arrV ((jx_D G).1 ak) n (fun q => Value.int (f q))).setSlot _ _) = _
  rw [arrV_store]
  congr 2
  funext q
  by_cases hq : q = j.toNatClampNeg
  · subst hq
    simp [updV, upd]
  · simp [updV, upd, hq]
theorem jx_last {ak n t0 : Nat} {f : Nat → Int64} {j : Int32} {x : Int64} (dc : decode y.2.1 pc = .ok (.lastore, 1)) (hM : M a = some (.inr (ak, n, .inr (.inl f)))) (ht : jx_ats[t0]? = some (ak, .long)) (hj : vp_in j n) (kk : jx_V y hh G R Q (pc + 1) l st (jx_up M a (.inr (ak, n, .inr (.inl (vp_updL f j.toNatClampNeg x))))) sz kc ks) : jx_V y hh G R Q pc l (.long x :: .int j :: .ref a :: st) M sz kc ks := by
  intro p L e s m args below meth c C K H locs ls hR hS hL
  obtain ⟨hx, hb, hr, hml, hown, hts, hlk, hnm, hex, hst⟩ := id C
  have hB : jx_B G ≤ a := (hR.2.2 a _ hM).1
  refine W.last hx hb (hR.2.2 a _ hM).2 ((K.1.2 t0 _ (jx_tyat ht)).1 n (fun j => .long (f j))) (fun q => by cases q) (by show ¬ (j < 0 ∨ (arrV _ _ _).slots.size ≤ _); rw [arrV_size]; exact hj) rfl rfl dc fun H1 e1 z oq => ?_
  refine kk p L e s m args below meth c C K H1 _ ls (hR.set hB z oq ?_) (hS.put z oq hB) hL
  show H1[a]? = some (arrV ((jx_D G).1 ak) n (fun q => Value.long (vp_updL f j.toNatClampNeg x q)))
  rw [e1]
  show some ((arrV ((jx_D G).1 ak) n (fun q => Value.long (f q))).setSlot _ _) = _
  rw [arrV_store]
  congr 2
  funext q
  by_cases hq : q = j.toNatClampNeg
  · subst hq
    simp [updV, vp_updL]
  · simp [updV, vp_updL, hq]
/-- a new object of class number k -/
theorem jx_new {idx : Nat} {C0 : String} {T : u_T} {N : Nat} (ty : Nat → FieldType) (dc : decode y.2.1 pc = .ok (.new idx, 3)) (h1 : vwCl[k]? = some (C0, T, N)) (h2 : ∀ w ∈ u_ws C0 T N, w ∈ jx_tb) (h3 : ∀ j, j < N → parseFieldDescriptor (T j).2.2.1 = some (ty j)) (h4 : Cond.classLink y.1.cls idx C0 ∈ jx_tb) (h5 : Cond.instantiable C0 N ∈ jx_tb) (h6 : Cond.initialized C0 ∈ jx_tb) (h7 : ∀ j, j < N → defaultValue (ty j) = vp_V fs j) (hc : kc + 1 ≤ R.cells) (hs : ks + N ≤ R.slots)
    (kk : M sz = none → jx_V y hh G R Q (pc + 3) l (.ref sz :: st) (jx_up M sz (.inl (k, fs))) (sz + 1) (kc + 1) (ks + N)) : jx_V y hh G R Q pc l st M sz kc ks := by
  intro p L e s m args below meth c C K H locs ls hR hS hL
  obtain ⟨hx, hb, hr, hml, hown, hts, hlk, hnm, hex, hst⟩ := id C
  have hKn := K.1.1 k _ h1
  have hno : M sz = none := by
    cases h : M sz with
    | none => rfl
    | some e => exact absurd (hR.lt h) (Nat.lt_irrefl _)
  refine W.newcK hx hb hown (hts _ h4) (hts _ h5) (hts _ h6) rfl dc hc hs hKn.2.1 hR.1 fun H1 kC hkC e1 z1 o1 => ?_
  exact kk hno p L e s m args below meth c C K H1 locs ls (hR.push z1 o1 ⟨_, h1, (u_born ty hts h2 hKn hkC e1 h3).to h7⟩) (hS.push hR.1 hR.2.1 z1 o1) hL
theorem jx_newa {atype : ArrayType} {ak t0 N : Nat} {ty : FieldType} {n : Int32} {a0 : vp_A} (dc : decode y.2.1 pc = .ok (.newarray atype, 2)) (hty : newarray.typeOf atype = ty) (hw : Cond.arrayClass ty ∈ jx_tb) (ht : jx_ats[t0]? = some (ak, ty)) (ha : ∀ cA : ClassId, vp_cell cA a0 = arrV cA N (fun _ => defaultValue ty)) (hn : ¬ n < 0) (hN : n.toNatClampNeg = N) (hbytes : N * componentBytes ty ≤ 536870912) (hc : kc + 1 ≤ R.cells) (hs : ks + N ≤ R.slots)
    (kk : M sz = none → jx_V y hh G R Q (pc + 2) l (.ref sz :: st) (jx_up M sz (.inr (ak, a0))) (sz + 1) (kc + 1) (ks + N)) : jx_V y hh G R Q pc l (.int n :: st) M sz kc ks := by
  intro p L e s m args below meth c C K H locs ls hR hS hL
  obtain ⟨hx, hb, hr, hml, hown, hts, hlk, hnm, hex, hst⟩ := id C
  subst hty
  have hno : M sz = none := by
    cases h : M sz with
    | none => rfl
    | some e => exact absurd (hR.lt h) (Nat.lt_irrefl _)
  refine va_newaK hx hb (hts _ hw) rfl dc rfl hn hN hbytes hc hs hR.1 fun H1 cA e1 z1 o1 hAr hNm => ?_
  have hcA : cA = (jx_D G).1 ak := by
    have h := (K.1.2 t0 _ (jx_tyat ht)).2
    cases atype <;> exact Option.some.inj (hNm.symm.trans h)
  refine kk hno p L e s m args below meth c C K H1 locs ls (hR.push z1 o1 ?_) (hS.push hR.1 hR.2.1 z1 o1) hL
  show H1[sz]? = some (vp_cell _ _)
  rw [ha, ← hcA]
  exact e1
theorem jx_cast {idx : Nat} {C0 nm : String} {T : u_T} {N : Nat} (dc : decode y.2.1 pc = .ok (.checkcast idx, 3)) (hM : M a = some (.inl (k, fs))) (h1 : vwCl[k]? = some (C0, T, N)) (h2 : Cond.classLink y.1.cls idx nm ∈ jx_tb) (h3 : Cond.castable C0 nm ∈ jx_tb) (kk : jx_V y hh G R Q (pc + 3) l (.ref a :: st) M sz kc ks) : jx_V y hh G R Q pc l (.ref a :: st) M sz kc ks := by
  intro p L e s m args below meth c C K H locs ls hR hS hL
  obtain ⟨hx, hb, hr, hml, hown, hts, hlk, hnm, hex, hst⟩ := id C
  exact va_castY hx hb hown (hts _ h2) (va_Nw.of rfl (hts _ h3)) (jx_recv hR K hM h1) dc (kk p L e s m args below meth c C K H locs ls hR hS hL)
theorem jx_objInit {idx : Nat} (dc : decode y.2.1 pc = .ok (.invokespecial idx, 3)) (lk : Cond.methodLink y.1.cls idx Lib.objectInit ∈ jx_tb) (h1 : 1 ≤ R.frames) (h2 : (st.map fun v => v.category).sum + 12 ≤ R.locals) (kk : jx_V y hh G R Q (pc + 3) l st M sz kc ks) : jx_V y hh G R Q pc l (.ref a :: st) M sz kc ks := by
  intro p L e s m args below meth c C K H locs ls hR hS hL
  obtain ⟨hx, hb, hr, hml, hown, hts, hlk, hnm, hex, hst⟩ := id C
  refine W.objInit hx hb hown (hts _ lk) (hts _ jx_oi) (hts _ jx_oc) rfl (by rw [hml]; exact hL.1) rfl dc h1 (by show 2 * 0 + _ + 12 ≤ _; omega) ?_
  exact kk p L e s m args below meth c C K H locs ls hR hS hL
end JXH
