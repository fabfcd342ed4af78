/-! PART 13: rows that the JDK's methods need -/
theorem jx_sysi : Cond.initialized "java/lang/System" ∈ jx_tb := by decide +kernel
section JXJ
variable {y : jx_md} {hh : jx_h4} {G : jx_G} {R : Room} {Q : Array Value → State → List Frame → State → Prop} {pc : Nat} {l : List (Option Value)} {st : List Value} {M : jx_H} {sz kc ks a k i : Nat} {fs : List Value}
theorem jx_gets0 {idx : Nat} (dc : decode y.2.1 pc = .ok (.getstatic idx, 3)) (lk : Cond.fieldLink y.1.cls idx "java/util/ArrayList" "DEFAULTCAPACITY_EMPTY_ELEMENTDATA" "[Ljava/lang/Object;" ∈ jx_tb) (kk : jx_V y hh G R Q (pc + 3) l (.ref (jx_ea G) :: st) M sz kc ks) : jx_V y hh G R Q pc l st M sz kc ks := by
  intro p L e s m args below meth c C K H locs ls hR hS hL
  obtain ⟨hx, hb, hr, hml, hown, hts, hlk, hnm, hex, hst⟩ := id C
  exact va_gets hx hb K.2.2.2.2.1 hS.va hown (hts _ lk) (fun _ h => h) dc (kk p L e s m args below meth c C K H locs ls hR hS hL)
theorem jx_tlen (dc : decode y.2.1 pc = .ok (.arraylength, 1)) (kk : jx_V y hh G R Q (pc + 1) l (.int (nI 0) :: st) M sz kc ks) : jx_V y hh G R Q pc l (.ref (jx_ea G) :: st) M sz kc ks := by
  intro p L e s m args below meth c C K H locs ls hR hS hL
  obtain ⟨hx, hb, hr, hml, hown, hts, hlk, hnm, hex, hst⟩ := id C
  exact va_tlen hx hb K.2.2.2.2.2.1 hS.va rfl dc (kk p L e s m args below meth c C K H locs ls hR hS hL)
theorem jx_acmp_eq {rx rz : Option Nat} {off : Int} {tgt : Nat} (dc : decode y.2.1 pc = .ok (.if_acmp .eq off, 3)) (ht : (pc : Int) + off = (tgt : Int)) (kt : rx = rz → jx_V y hh G R Q tgt l st M sz kc ks) (kf : ¬ rx = rz → jx_V y hh G R Q (pc + 3) l st M sz kc ks) : jx_V y hh G R Q pc l (va_rf rz :: va_rf rx :: st) M sz kc ks := by
  intro p L e s m args below meth c C K H locs ls hR hS hL
  obtain ⟨hx, hb, hr, hml, hown, hts, hlk, hnm, hex, hst⟩ := id C
  exact lv_acmp_eq hx hb dc ht (fun q => kt q p L e s m args below meth c C K H locs ls hR hS hL) (fun q => kf q p L e s m args below meth c C K H locs ls hR hS hL)
theorem jx_acmp_ne {rx rz : Option Nat} {off : Int} {tgt : Nat} (dc : decode y.2.1 pc = .ok (.if_acmp .ne off, 3)) (ht : (pc : Int) + off = (tgt : Int)) (kt : ¬ rx = rz → jx_V y hh G R Q tgt l st M sz kc ks) (kf : rx = rz → jx_V y hh G R Q (pc + 3) l st M sz kc ks) : jx_V y hh G R Q pc l (va_rf rz :: va_rf rx :: st) M sz kc ks := by
  intro p L e s m args below meth c C K H locs ls hR hS hL
  obtain ⟨hx, hb, hr, hml, hown, hts, hlk, hnm, hex, hst⟩ := id C
  exact lv_acmp_ne hx hb dc ht (fun q => kt q p L e s m args below meth c C K H locs ls hR hS hL) (fun q => kf q p L e s m args below meth c C K H locs ls hR hS hL)
theorem jx_null (dc : decode y.2.1 pc = .ok (.aconst_null, 1)) (kk : jx_V y hh G R Q (pc + 1) l (.null :: st) M sz kc ks) : jx_V y hh G R Q pc l st M sz kc ks := by
  intro p L e s m args below meth c C K H locs ls hR hS hL
  obtain ⟨hx, hb, hr, hml, hown, hts, hlk, hnm, hex, hst⟩ := id C
  exact lv_null hx hb dc (kk p L e s m args below meth c C K H locs ls hR hS hL)
theorem jx_RA {s : State} (K : jx_K G s) : va_RA s ((jx_D G).1 52) (.object "java/lang/Object") := (K.1.2 2 _ (jx_tyat (t0 := 2) rfl)).2
theorem jx_anew {idx N : Nat} {n : Int32} (dc : decode y.2.1 pc = .ok (.anewarray idx, 3)) (h1 : Cond.classLink y.1.cls idx "java/lang/Object" ∈ jx_tb) (h2 : Cond.arrayOver (.object "java/lang/Object") ∈ jx_nb) (hn : ¬ n < 0) (hN : n.toNatClampNeg = N) (hby : N * 4 ≤ 536870912) (hc : kc + 1 ≤ R.cells) (hs : ks + N ≤ R.slots) (kk : M sz = none → jx_V y hh G R Q (pc + 3) l (.ref sz :: st) (jx_up M sz (kf_oa N (fun _ => none))) (sz + 1) (kc + 1) (ks + N)) : jx_V y hh G R Q pc l (.int n :: st) M sz kc ks := by
  intro p L e s m args below meth c C K H locs ls hR hS hL
  obtain ⟨hx, hb, hr, hml, hown, hts, hlk, hnm, hex, hst⟩ := id C
  have hno : M sz = none := by
    cases h : M sz with
    | none => rfl
    | some e => exact absurd (hR.lt h) (Nat.lt_irrefl _)
  subst hN
  refine W.anew hx hb hown (hts _ h1) (K.2.1 _ h2) rfl dc rfl hn hby hc hs fun cA kA comp g1 g2 g3 g4 => ?_
  have hcA : cA = (jx_D G).1 52 := by
    obtain ⟨_, _, _, _, _, h⟩ := jx_RA K
    exact Option.some.inj (g1.symm.trans h)
  have hz := hR.1
  have e1 : (H.push { cls := cA, slots := Array.replicate n.toNatClampNeg .null, vm := .none })[sz]? = some (arrV ((jx_D G).1 52) n.toNatClampNeg (fun _ => .null)) := by
    rw [← hcA, ← arrV_new, ← hz]
    simp
  have e2 : (H.push { cls := cA, slots := Array.replicate n.toNatClampNeg .null, vm := .none }).size = sz + 1 := by
    rw [← hz]
    simp
  have e3 : ∀ q : Nat, q < sz → (H.push { cls := cA, slots := Array.replicate n.toNatClampNeg .null, vm := .none })[q]? = H[q]? := by
    intro q hq
    rw [Array.getElem?_push, if_neg (by omega)]
  generalize H.push { cls := cA, slots := Array.replicate n.toNatClampNeg .null, vm := .none } = H1 at e1 e2 e3 ⊢
  have e4 : F0 m (pc + 3) ls (.ref H.size :: st) = F0 m (pc + 3) ls (.ref sz :: st) := by rw [hz]
  refine W.eq e4 ?_
  exact kk hno p L e s m args below meth c C K H1 locs ls (hR.push e2 e3 e1) (hS.push hz hR.2.1 e2 e3) hL
theorem jx_aast {n v : Nat} {f : Nat → Option Nat} {C0 : String} {T : u_T} {N : Nat} {j : Int32} (dc : decode y.2.1 pc = .ok (.aastore, 1)) (hM : M a = some (kf_oa n f)) (hv : M v = some (.inl (k, fs))) (h1 : vwCl[k]? = some (C0, T, N)) (h2 : Cond.castable C0 "java/lang/Object" ∈ jx_nb) (hj : vp_in j n) (kk : jx_V y hh G R Q (pc + 1) l st (jx_up M a (kf_oa n (va_up f j.toNatClampNeg (some v)))) sz kc ks) : jx_V y hh G R Q pc l (.ref v :: .int j :: .ref a :: st) M sz kc ks := by
  intro p L e s m args below meth c C K H locs ls hR hS hL
  obtain ⟨hx, hb, hr, hml, hown, hts, hlk, hnm, hex, hst⟩ := id C
  have hlt : j.toNatClampNeg < n := Nat.not_le.mp fun q => hj (Or.inr q)
  have h0 : ¬ j < 0 := fun q => hj (Or.inl q)
  obtain ⟨cellV, g1, g3, g2⟩ := jx_recv hR K hv h1
  obtain ⟨kA, comp, k1, k2, k3, -⟩ := jx_RA K
  obtain ⟨kE, hkE, -⟩ := Vm.findClass_spec k3
  obtain ⟨kC, hkC, -⟩ := Vm.findClass_spec g2
  have hB := (hR.2.2 a _ hM).1
  refine W.aast hx hb (hR.2.2 a _ hM).2 (fun q h => by cases h) (fun h => by cases h) k1 k2 rfl hkE ⟨h0, by show _ < (arrV _ _ _).slots.size; rw [arrV_size]; exact hlt⟩ g1 (fun q h => by rw [h] at g3; cases g3) hkC (vb_asgC (K.2.1 _ h2) _ _ k3 g2) rfl rfl dc fun H1 e1 z oq => ?_
  refine kk p L e s m args below meth c C K H1 _ ls (hR.set hB z oq ?_) (hS.put z oq hB) hL
  show H1[a]? = some (arrV ((jx_D G).1 52) n (fun q => va_rf (va_up f j.toNatClampNeg (some v) q)))
  rw [e1]
  show some ((arrV ((jx_D G).1 52) n (fun q => va_rf (f q))).setSlot _ _) = _
  rw [arrV_store]
  congr 2
  funext q
  by_cases hq : q = j.toNatClampNeg
  · subst hq
    simp [updV, va_up, va_rf]
  · simp [updV, va_up, hq]
theorem jx_getC {idx n : Nat} {f : Nat → Option Nat} (dc : decode y.2.1 pc = .ok (.invokevirtual idx, 3)) (lk : Cond.methodLink y.1.cls idx ⟨"java/lang/Object", "getClass", "()Ljava/lang/Class;"⟩ ∈ jx_tb) (hM : M a = some (kf_oa n f)) (h1 : 1 ≤ R.frames) (h2 : (st.map fun v => v.category).sum + 14 ≤ R.locals) (kk : jx_V y hh G R Q (pc + 3) l (.ref (jx_mi G) :: st) M sz kc ks) : jx_V y hh G R Q pc l (.ref a :: st) M sz kc ks := by
  intro p L e s m args below meth c C K H locs ls hR hS hL
  obtain ⟨hx, hb, hr, hml, hown, hts, hlk, hnm, hex, hst⟩ := id C
  have hmi := K.2.2.2.2.2.2.2.2.2.2.1
  have hA := va_nmO (nm := "[Ljava/lang/Object;") (jx_RA K) (by decide)
  exact va_getC hx hb (hml.trans hL.1.symm) hown (hts _ lk) (va_Nw.use rfl (K.2.1 _ (jx_nbm 941 (by decide +kernel) rfl))) (hts _ (jx_mem 940 (by decide +kernel) rfl)) (hts _ (jx_mem 314 (by decide +kernel) rfl)) (hts _ (jx_mem 326 (by decide +kernel) rfl)) hmi ⟨_, (hR.2.2 a _ hM).2, rfl, hA⟩ h1 h2 dc (kk p L e s m args below meth c C K H locs ls hR hS hL)
theorem jx_ldcM {idx : Nat} (dc : decode y.2.1 pc = .ok (.ldc idx, 2)) (lk : Cond.classLink y.1.cls idx "[Ljava/lang/Object;" ∈ jx_tb) (kk : jx_V y hh G R Q (pc + 2) l (.ref (jx_mi G) :: st) M sz kc ks) : jx_V y hh G R Q pc l st M sz kc ks := by
  intro p L e s m args below meth c C K H locs ls hR hS hL
  obtain ⟨hx, hb, hr, hml, hown, hts, hlk, hnm, hex, hst⟩ := id C
  exact va_ldcM hx hb hown (hts _ lk) K.2.2.2.2.2.2.2.2.2.2.1 dc (kk p L e s m args below meth c C K H locs ls hR hS hL)
/-- System.arraycopy between two arrays of references whose elements are objects of class number k -/
theorem jx_copyq {idx a0 n0 n1 N : Nat} {f g : Nat → Option Nat} {C0 : String} {T : u_T} {sp dp n : Int32} (dc : decode y.2.1 pc = .ok (.invokestatic idx, 3)) (lk : Cond.methodLink y.1.cls idx arraycopyName ∈ jx_tb) (h1 : vwCl[k]? = some (C0, T, N)) (h2 : Cond.castable C0 "java/lang/Object" ∈ jx_nb)
    (hM0 : M a0 = some (kf_oa n0 f)) (hM1 : M a = some (kf_oa n1 g)) (hp : ¬ sp < 0) (hq : ¬ dp < 0) (hn : ¬ n < 0) (h4 : sp.toNatClampNeg + n.toNatClampNeg ≤ n0) (h5 : dp.toNatClampNeg + n.toNatClampNeg ≤ n1) (hel : ∀ i : Nat, i < n.toNatClampNeg → ∀ z : Nat, f (sp.toNatClampNeg + i) = some z → ∃ fs : List Value, M z = some (.inl (k, fs)))
    (hf : 1 ≤ R.frames) (hlo : (st.map fun v => v.category).sum + (nativeFrameWords "java/lang/System" "arraycopy" 5 + 11) ≤ R.locals) (kk : jx_V y hh G R Q (pc + 3) l st (jx_up M a (kf_oa n1 (va_cpy f g sp.toNatClampNeg dp.toNatClampNeg n.toNatClampNeg))) sz kc ks) : jx_V y hh G R Q pc l (.int n :: .int dp :: .ref a :: .int sp :: .ref a0 :: st) M sz kc ks := by
  intro p L e s m args below meth c C K H locs ls hR hS hL
  obtain ⟨hx, hb, hr, hml, hown, hts, hlk, hnm, hex, hst⟩ := id C
  have nn : ∀ z : Int32, ¬ z < 0 → z.toInt = (z.toNatClampNeg : Int) := by
    intro z hz
    have hz0 : (0 : Int) ≤ z.toInt := by
      have := Int32.not_lt.mp hz
      simpa using Int32.le_iff_toInt_le.mp this
    show z.toInt = ((z.toInt.toNat : Nat) : Int)
    omega
  have hB := (hR.2.2 a _ hM1).1
  intro T0 hT X
  have hc0 : H[a0]? = some (vp_cell ((jx_D G).1 52) (n0, .inr (.inr (.inr (.inr f))))) := (hR.2.2 a0 _ hM0).2
  have hc1 : H[a]? = some (vp_cell ((jx_D G).1 52) (n1, .inr (.inr (.inr (.inr g))))) := (hR.2.2 a _ hM1).2
  obtain ⟨-, k0, hk0, cm0, hkk0⟩ := (K.1.2 2 _ (jx_tyat (t0 := 2) rfl)).1 n0 (fun j => va_rf (f j))
  obtain ⟨-, k1, hk1, cm1, hkk1⟩ := (K.1.2 2 _ (jx_tyat (t0 := 2) rfl)).1 n1 (fun j => va_rf (g j))
  obtain ⟨vm', X', step⟩ := X.arraycopy hx hown (hts _ lk) (hts _ (jx_mem 336 (by decide +kernel) rfl)) (hts _ (jx_mem 335 (by decide +kernel) rfl)) (hts _ jx_sysi) (src := a0) (dst := a) (cs := vp_cell ((jx_D G).1 52) (n0, .inr (.inr (.inr (.inr f))))) (cd := vp_cell ((jx_D G).1 52) (n1, .inr (.inr (.inr (.inr g))))) (srcPos := sp) (destPos := dp) (n := n) (by rw [hT]; exact hc0) (by rw [hT]; exact hc1)
    (fun _ h => by cases h) (fun _ h => by cases h) (fun h => by cases h) (fun h => by cases h) hk0 hk1 hkk0 hkk1 rfl hp hq hn
    (by rw [nn sp hp, nn n hn]; show ¬ _ > ((arrV _ n0 (fun j => va_rf (f j))).slots.size : Int); rw [arrV_size]; omega)
    (by rw [nn dp hq, nn n hn]; show ¬ _ > ((arrV _ n1 (fun j => va_rf (g j))).slots.size : Int); rw [arrV_size]; omega)
    (fun vm₁ hal i hi => by
      have e : (vp_cell ((jx_D G).1 52) (n0, .inr (.inr (.inr (.inr f))))).slots.getD (sp.toNatClampNeg + i) .null = va_rf (f (sp.toNatClampNeg + i)) := by
        show (arrV _ n0 (fun j => va_rf (f j))).slots.getD _ _ = _
        rw [Array.getD_eq_getD_getElem?, arrV_read _ _ (by omega)]
        rfl
      rw [e]
      cases hy : f (sp.toNatClampNeg + i) with
      | none => exact ⟨rfl, trivial⟩
      | some z =>
        obtain ⟨fs, hfs⟩ := hel i hi z hy
        obtain ⟨cellV, g1, g2, g3⟩ := jx_recv hR K hfs h1
        obtain ⟨kA, comp, r1, r2, r3, -⟩ := jx_RA K
        cases hk1.symm.trans r1
        cases hkk1.symm.trans r2
        obtain ⟨kC, hkC, -⟩ := Vm.findClass_spec g3
        obtain ⟨kE, hkE, -⟩ := Vm.findClass_spec r3
        obtain ⟨kC', hkC', -⟩ := hal.2.2 _ _ hkC
        obtain ⟨kE', hkE', -⟩ := hal.2.2 _ _ hkE
        refine ⟨rfl, cellV, (show T0.heap[z]? = some cellV by rw [hT]; exact g1), (fun q h => by rw [h] at g2; cases g2), ⟨kC', hkC'⟩, ?_, ?_⟩
        · exact ⟨kE', hkE'⟩
        · show vm₁.assignable _ _ = true
          rw [hal.assignable]
          exact vb_asgC (K.2.1 _ h2) _ _ r3 g3)
    (g := F0 m pc ls (.int n :: .int dp :: .ref a :: .int sp :: .ref a0 :: st)) rfl (by rw [hml]; exact hL.1) (rest := st) rfl (by rw [hb]; exact dc) hf (by show 2 * 0 + _ + _ ≤ _; omega)
  have e1 : copied (vp_cell ((jx_D G).1 52) (n0, .inr (.inr (.inr (.inr f))))) (vp_cell ((jx_D G).1 52) (n1, .inr (.inr (.inr (.inr g))))) sp dp n = vp_cell ((jx_D G).1 52) (n1, .inr (.inr (.inr (.inr (va_cpy f g sp.toNatClampNeg dp.toNatClampNeg n.toNatClampNeg))))) := by
    rw [vp_cell_q, vp_cell_q, vp_cell_q]
    exact va_copied (fun z => va_rf z) _ _ f g h4
  rw [e1] at X' step
  have hl : a < H.size := (Array.getElem?_eq_some_iff.mp hc1).1
  have hheap : ((T0.setVm vm').setCell a (vp_cell ((jx_D G).1 52) (n1, .inr (.inr (.inr (.inr (va_cpy f g sp.toNatClampNeg dp.toNatClampNeg n.toNatClampNeg))))))).heap = H.setIfInBounds a (vp_cell ((jx_D G).1 52) (n1, .inr (.inr (.inr (.inr (va_cpy f g sp.toNatClampNeg dp.toNatClampNeg n.toNatClampNeg)))))) := by rw [← hT]; rfl
  have ez : (H.setIfInBounds a (vp_cell ((jx_D G).1 52) (n1, .inr (.inr (.inr (.inr (va_cpy f g sp.toNatClampNeg dp.toNatClampNeg n.toNatClampNeg))))))).size = H.size := by simp
  have oq : ∀ q : Nat, q ≠ a → (H.setIfInBounds a (vp_cell ((jx_D G).1 52) (n1, .inr (.inr (.inr (.inr (va_cpy f g sp.toNatClampNeg dp.toNatClampNeg n.toNatClampNeg)))))))[q]? = H[q]? := fun q hq => by simp [Array.getElem?_setIfInBounds, Ne.symm hq]
  have ea : jx_at G a (kf_oa n1 (va_cpy f g sp.toNatClampNeg dp.toNatClampNeg n.toNatClampNeg)) (H.setIfInBounds a (vp_cell ((jx_D G).1 52) (n1, .inr (.inr (.inr (.inr (va_cpy f g sp.toNatClampNeg dp.toNatClampNeg n.toNatClampNeg))))))) := by
    show (H.setIfInBounds a _)[a]? = some _
    simp [Array.getElem?_setIfInBounds, hl]
  obtain ⟨t, a1, b1⟩ := kk p L e s m args below meth c C K _ _ ls (hR.set hB ez oq ea) ⟨by rw [ez]; exact hS.1, fun q g1 => by rw [oq q (by omega)]; exact hS.2.1 q g1, fun q hq => by
      rcases List.mem_append.mp hq with h | h
      · exact hS.2.2 q h
      · obtain ⟨z, -, hz⟩ := List.mem_map.mp h
        rw [← hz]
        exact hB⟩ hL _ hheap X'
  exact ⟨t, step t a1, b1⟩
end JXJ
