/-! PART 27: methods that return or throw -/
def jx_Xx (G : jx_G) (ZX : String → jx_H → Nat → Prop) : String → State → State → Prop := fun E st t => ∃ (M : jx_H) (sz : Nat), ZX E M sz ∧ jx_R G M sz t.heap ∧ st.heap.size ≤ t.heap.size ∧ ∀ q : Nat, q < jx_B G → t.heap[q]? = st.heap[q]?
def jx_Q2 (G : jx_G) (mc ms : Nat) (Z : Option Value → jx_H → Nat → Prop) (ZX : String → jx_H → Nat → Prop) : Array Value → State → List Frame → State → Prop := fun args s below => vx_MQ below (jx_Qr G Z) (jx_Xx G ZX) args s mc ms (fun q => jx_B G ≤ q)
/-- A CONTRACT of a method that may throw: Z where it returns, ZX (with the exception's class) where it throws -/
def jx_Cx (y : jx_md) (G : jx_G) (d : Nat) (as : List Value) (M : jx_H) (sz mc ms : Nat) (Z : Option Value → jx_H → Nat → Prop) (ZX : String → jx_H → Nat → Prop) : Prop := ∀ L : Launch, L.stackTraces = false → vx_Met L y.1 (jx_cw y) (jx_rm d mc ms) (jx_Pc G as M sz) (jx_Qr G Z) (jx_Xx G ZX) mc ms (fun q => jx_B G ≤ q)
abbrev jx_tn : List String := ["java/lang/RuntimeException", "java/lang/Exception"]
def jx_TL (own : String) (ik : Nat) (cls : String) (ic : Nat) : Prop := Bundle.fit cls = true ∧ Cond.classLink own ik cls ∈ jx_tb ∧ Cond.initialized cls ∈ jx_tb ∧ ∀ w ∈ vx_atS own ic cls jx_tn, (w ∈ jx_tb ∨ w ∈ jx_nb ∧ w.onTables = true) ∧ vx_ot w = true
theorem jx_TL.of {own cls : String} {ik ic : Nat} (i0 i1 : Nat) (ps : List Nat) (hf : Bundle.fit cls = true) (h0 : tables_1[i0]? = some (Cond.classLink own ik cls)) (h1 : tables_1[i1]? = some (Cond.initialized cls)) (hp : vx_atS own ic cls jx_tn = ps.filterMap (fun i => tables_1[i]?)) (hg : (vx_atS own ic cls jx_tn).all (fun w => (goodWord w || (jx_mv w && w.onTables)) && vx_ot w) = true) : jx_TL own ik cls ic := by
  refine ⟨hf, jx_mem i0 h0 rfl, jx_mem i1 h1 rfl, fun w hw => ?_⟩
  have h2 := List.all_eq_true.mp hg w hw
  simp only [Bool.and_eq_true, Bool.or_eq_true] at h2
  refine ⟨?_, h2.2⟩
  rw [hp] at hw
  obtain ⟨i, -, hi⟩ := List.mem_filterMap.mp hw
  rcases h2.1 with h | h
  · exact Or.inl (jx_mem i hi h)
  · exact Or.inr ⟨jx_nbm i hi h.1, h.2⟩
section JXT
variable {y : jx_md} {hh : jx_h4} {G : jx_G} {d : Nat} {R : Room} {pc : Nat} {l : List (Option Value)} {st : List Value} {M : jx_H} {sz kc ks mc ms : Nat} {Z : Option Value → jx_H → Nat → Prop} {ZX : String → jx_H → Nat → Prop}
theorem jx_q2 (k : jx_V y hh G R (jx_Q1 G mc ms Z) pc l st M sz kc ks) : jx_V y hh G R (jx_Q2 G mc ms Z ZX) pc l st M sz kc ks := by
  intro p L e s m args below meth c C K H locs ls hR hS hL
  exact vx_ret (k p L e s m args below meth c C K H locs ls hR hS hL)
theorem jx_entx {as : List Value} (hy : plainName y.1.cls = true) (hn : (lg_sl as).length ≤ y.2.2.1) (hl : jx_le (jx_eas as) l) (k : (∀ a e, M a = some e → a < sz) → jx_V y [] G (jx_rm d mc ms) (jx_Q2 G mc ms Z ZX) 0 l [] M sz 0 0) : jx_Cx y G d as M sz mc ms Z ZX := by
  intro L hst
  refine vx_ofW (cc := y.2.1) (maxL := y.2.2.1) (ret := y.2.2.2) hy rfl ?_
  intro p e s m args below meth c s₁ X hml hnx hv
  obtain ⟨rfl, hK, hR⟩ := hv
  have hts := atoms_spec (ws := jx_cw y) X.pre
  have hcd := hts _ (List.mem_cons_self)
  have hown : s.vm.findClass y.1.cls = some m.cls := findClass_of_methodNamed X.named
  have hex := X.noHandlers hcd
  rw [lg_entry_eq]
  refine k (fun a e h => hR.lt h) p L e s m _ below meth c ⟨X.exec, X.bytes, X.returns, hml, hown, fun w hw => hts w (List.mem_cons_of_mem _ hw), X.notSynchronized, (name_of_methodNamed X.named X.method).1, ?_, hst⟩ hK s.heap [] _ hR ⟨Nat.le_refl _, fun _ _ => rfl, fun _ h => by cases h⟩ (jx_L.entry hn hl)
  have : c.exceptionTable = #[] := by simpa using hex
  rw [this]
  rfl
theorem jx_throw {cls text : String} {ik is ic : Nat} (T : jx_TL y.1.cls ik cls ic) (hs : (y.1.cls, is, text) ∈ jx_strs) (d0 : decode y.2.1 pc = .ok (.new ik, 3)) (d3 : decode y.2.1 (pc + 3) = .ok (.dup, 1)) (d4 : decode y.2.1 (pc + 4) = .ok (.ldc is, 2)) (d6 : decode y.2.1 (pc + 6) = .ok (.invokespecial ic, 3)) (d9 : decode y.2.1 (pc + 9) = .ok (.athrow, 1))
    (hd : 4 < d) (h1 : kc + 1 ≤ mc) (h2 : ks + 6 ≤ ms) (hz : ∀ sz', sz ≤ sz' → ZX cls M sz') : jx_V y [] G (jx_rm d mc ms) (jx_Q2 G mc ms Z ZX) pc l [] M sz kc ks := by
  intro p L e s m args below meth c C K H locs ls hR hS hL
  obtain ⟨hx, hb, hr2, hml, hown, hts, hlk, hnm, hex, hst⟩ := id C
  obtain ⟨k1, k2, k3, k4, k5, k6, k7, k8, k9, k10⟩ := id K
  obtain ⟨t1, t2, t3, t4⟩ := T
  obtain ⟨sa, hsa⟩ := k9 _ hs
  have htx : c.exceptionTable.toList = [] := by simpa using hex
  have hHs : H.size = sz := hR.1
  refine vx_throwS (names := jx_tn) (A := fun q => jx_B G ≤ q) hx hb hst hown t1 (by decide) (hts _ t2) (hts _ t3) hsa (fun w hw => ?_) (fun w hw => ?_) k7 k8 hS.va (hL.1.trans hml.symm) d0 d3 d4 d6 d9 (by rw [htx]; intro x hx; cases hx) ?_ ?_ ?_ ?_ hlk (fun t hW hz1 hz2 => ?_) hS.2.2 h1 h2
  · rcases t4 w hw with ⟨h | ⟨h, ho⟩, h3⟩
    · exact hts _ h
    · exact va_Nw.use ho (k2 w h)
  · rcases List.mem_cons.mp hw with h | h
    · subst h; rfl
    · rcases List.mem_cons.mp h with h | h
      · subst h; rfl
      · exact (t4 w h).2
  · show 2 + 3 < d + 1
    omega
  · show 0 + (13 * (2 + 1) + 43) ≤ 32 * d + 100
    omega
  · exact h1
  · exact h2
  · refine ⟨M, t.heap.size, hz _ (by rw [← hHs]; exact hz1), ⟨rfl, Nat.le_trans hR.2.1 (by rw [← hHs]; exact hz1), fun a e ha => ⟨(hR.2.2 a e ha).1, (hR.2.2 a e ha).2.kept (hz2 a (by rw [hHs]; exact hR.lt ha))⟩⟩, Nat.le_trans hS.1 hz1, fun q hq => ?_⟩
    rw [hz2 q (by rw [hHs]; exact Nat.lt_of_lt_of_le hq hR.2.1)]
    exact hS.2.1 q hq
end JXT
theorem jx_smem {own : String} {k : Nat} {tx : String} (i : Nat) (h : tables_1[i]? = some (.stringRef own k tx)) : (own, k, tx) ∈ jx_strs := List.mem_filterMap.mpr ⟨_, List.mem_of_getElem? h, rfl⟩
theorem tl_IA : jx_TL "KeyedFolds" 85 "java/lang/IllegalArgumentException" 89 := jx_TL.of 168 12 [9, 190, 199, 203, 206, 208, 191, 192, 28, 29, 193, 198, 204, 224, 180, 225, 182, 226, 184, 194, 196, 186, 220, 221, 223, 186, 211, 212, 213, 214, 172, 214, 215, 216, 217, 174, 217, 218, 219, 220, 176, 210, 169, 170, 177, 178, 179, 181, 183, 185, 189, 188, 187] (by decide) rfl rfl (by decide +kernel) (by decide +kernel)
theorem tl_IS : jx_TL "KeyedFolds" 96 "java/lang/IllegalStateException" 100 := jx_TL.of 240 13 [9, 190, 199, 203, 206, 208, 191, 192, 28, 29, 193, 198, 204, 224, 180, 225, 182, 226, 184, 194, 196, 186, 220, 221, 223, 186, 251, 252, 253, 214, 172, 214, 215, 216, 217, 174, 217, 218, 219, 220, 176, 250, 241, 242, 243, 201, 244, 245, 246, 247, 189, 188, 248] (by decide) rfl rfl (by decide +kernel) (by decide +kernel)
theorem tl_IO : jx_TL "KeyedFolds" 120 "java/lang/IndexOutOfBoundsException" 124 := jx_TL.of 351 18 [9, 190, 199, 203, 206, 208, 191, 192, 28, 29, 193, 198, 204, 224, 180, 225, 182, 226, 184, 194, 196, 186, 220, 221, 223, 186, 362, 363, 364, 214, 172, 214, 215, 216, 217, 174, 217, 218, 219, 220, 176, 361, 352, 353, 354, 202, 355, 356, 357, 358, 189, 188, 359] (by decide) rfl rfl (by decide +kernel) (by decide +kernel)
theorem ts_87 : ("KeyedFolds", 87, "the kind is not 0 .. 8") ∈ jx_strs := jx_smem 209 (by decide +kernel)
theorem ts_98 : ("KeyedFolds", 98, "there are six folds") ∈ jx_strs := jx_smem 249 (by decide +kernel)
theorem ts_105 : ("KeyedFolds", 105, "a row was taken already") ∈ jx_strs := jx_smem 260 (by decide +kernel)
theorem ts_122 : ("KeyedFolds", 122, "no such fold") ∈ jx_strs := jx_smem 360 (by decide +kernel)
theorem ts_132 : ("KeyedFolds", 132, "it fails at four values") ∈ jx_strs := jx_smem 381 (by decide +kernel)
theorem ts_138 : ("KeyedFolds", 138, "it fails at that value already") ∈ jx_strs := jx_smem 386 (by decide +kernel)
theorem ts_144 : ("KeyedFolds", 144, "which is not 0 or 1") ∈ jx_strs := jx_smem 398 (by decide +kernel)
theorem ts_146 : ("KeyedFolds", 146, "the rule is not 0 .. 2") ∈ jx_strs := jx_smem 399 (by decide +kernel)
theorem ts_150 : ("KeyedFolds", 150, "the time is not 0 .. 2^40") ∈ jx_strs := jx_smem 408 (by decide +kernel)
theorem ts_152 : ("KeyedFolds", 152, "there is no fold") ∈ jx_strs := jx_smem 409 (by decide +kernel)
theorem ts_157 : ("KeyedFolds", 157, "the key is stopped") ∈ jx_strs := jx_smem 418 (by decide +kernel)
theorem ts_166 : ("KeyedFolds", 166, "there is no room for a key, or row") ∈ jx_strs := jx_smem 455 (by decide +kernel)
theorem ts_185 : ("KeyedFolds", 185, "the key is not stopped") ∈ jx_strs := jx_smem 605 (by decide +kernel)
theorem ts_194 : ("KeyedFolds", 194, "no such key") ∈ jx_strs := jx_smem 617 (by decide +kernel)
theorem ts_202 : ("KeyedFolds", 202, "what is not 0 .. 2") ∈ jx_strs := jx_smem 625 (by decide +kernel)
theorem ts_210 : ("KeyedFolds", 210, "no such row") ∈ jx_strs := jx_smem 633 (by decide +kernel)
theorem ts_212 : ("KeyedFolds", 212, "what is not 0 or 1") ∈ jx_strs := jx_smem 634 (by decide +kernel)
theorem ts_223 : ("KeyedFolds", 223, "no such aside") ∈ jx_strs := jx_smem 646 (by decide +kernel)
theorem ts_225 : ("KeyedFolds", 225, "what is not 0 .. 3") ∈ jx_strs := jx_smem 647 (by decide +kernel)
theorem ts_231 : ("KeyedFolds", 231, "no such output") ∈ jx_strs := jx_smem 659 (by decide +kernel)
theorem ts_233 : ("KeyedFolds", 233, "what is neither 0, 1 nor that of a fold") ∈ jx_strs := jx_smem 660 (by decide +kernel)
theorem ts_238 : ("KeyedFolds", 238, "there is no watermark") ∈ jx_strs := jx_smem 668 (by decide +kernel)
theorem ts_247 : ("KeyedFolds", 247, "what is not 0 .. 8") ∈ jx_strs := jx_smem 676 (by decide +kernel)
