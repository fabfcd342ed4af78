/-! PART 03: contracts over pictures, entry, ends, calls -/
def jx_rm (d mc ms : Nat) : Room := { frames := d + 1, cells := mc, slots := ms, locals := 32 * d + 100 }
def jx_cw (y : jx_md) : List Cond := Cond.code y.1 y.2.1 y.2.2.1 y.2.2.2 :: jx_tb
def jx_Pc (G : jx_G) (as : List Value) (M : jx_H) (sz : Nat) : Array Value → State → Prop := fun v U => v = as.toArray ∧ jx_K G U ∧ jx_R G M sz U.heap
def jx_Qr (G : jx_G) (Z : Option Value → jx_H → Nat → Prop) : Array Value → State → Outcome → State → Prop := fun _ st o t => ∃ (v : Option Value) (M : jx_H) (sz : Nat), o = .returned v ∧ Z v M sz ∧ jx_R G M sz t.heap ∧ st.heap.size ≤ t.heap.size ∧ ∀ q : Nat, q < jx_B G → t.heap[q]? = st.heap[q]?
/-- A CONTRACT: called with 'as' on a heap with the picture M, the method returns, and Z holds of its answer and of the picture then -/
def jx_Cr (y : jx_md) (G : jx_G) (d : Nat) (as : List Value) (M : jx_H) (sz mc ms : Nat) (Z : Option Value → jx_H → Nat → Prop) : Prop := ∀ L : Launch, L.stackTraces = false → Met L y.1 (jx_cw y) (jx_rm d mc ms) (jx_Pc G as M sz) (jx_Qr G Z) mc ms (fun q => jx_B G ≤ q)
def jx_Q1 (G : jx_G) (mc ms : Nat) (Z : Option Value → jx_H → Nat → Prop) : Array Value → State → List Frame → State → Prop := fun args s below => MQ below (jx_Qr G Z) args s mc ms (fun q => jx_B G ≤ q)
theorem jx_blind {G : jx_G} {as : List Value} {M : jx_H} {sz : Nat} : FrameBlind (jx_Pc G as M sz) := fun a U g mk q => ⟨q.1, q.2.1.call, q.2.2⟩
section JXC
variable {y : jx_md} {hh : jx_h4} {G : jx_G} {d : Nat} {R : Room} {Q : Array Value → State → List Frame → State → Prop} {pc : Nat} {l : List (Option Value)} {st : List Value} {M : jx_H} {sz kc ks mc ms : Nat} {Z : Option Value → jx_H → Nat → Prop}
theorem jx_ent {as : List Value} (hy : plainName y.1.cls = true) (hn : (lg_sl as).length ≤ y.2.2.1) (hl : jx_le (jx_eas as) l) (k : (∀ a e, M a = some e → a < sz) → jx_V y [] G (jx_rm d mc ms) (jx_Q1 G mc ms Z) 0 l [] M sz 0 0) : jx_Cr y G d as M sz mc ms Z := by
  intro L hst
  refine Met.ofW (cc := y.2.1) (maxL := y.2.2.1) (ret := y.2.2.2) hy rfl ?_
  intro p e s m args below meth c s₁ X hml hv
  obtain ⟨rfl, hK, hR⟩ := hv
  have hts := atoms_spec (ws := jx_cw y) X.pre
  have hcd := hts _ (List.mem_cons_self)
  have hown : s.vm.findClass y.1.cls = some m.cls := findClass_of_methodNamed X.named
  have hex := X.noHandlers hcd
  rw [lg_entry_eq]
  refine k (fun a e h => hR.lt h) p L e s m _ below meth c ⟨X.exec, X.bytes, X.returns, hml, hown, fun w hw => hts w (List.mem_cons_of_mem _ hw), X.notSynchronized, (name_of_methodNamed X.named X.method).1, ?_, hst⟩ hK s.heap [] _ hR ⟨Nat.le_refl _, fun _ _ => rfl, fun _ h => by cases h⟩ (jx_L.entry hn hl)
  have : c.exceptionTable = #[] := by simpa using hex
  rw [this]
  rfl
theorem jx_fin {v : Option Value} {args : Array Value} {s : State} {H : Heap} {locs : List Loc} (hR : jx_R G M sz H) (hS : jx_S G s.heap H locs) (hz : Z v M sz) (t : State) (ht : t.heap = H) : jx_Qr G Z args s (.returned v) t :=
  ⟨v, M, sz, rfl, hz, by rw [ht]; exact hR, by rw [ht]; exact hS.1, fun q h => by rw [ht]; exact hS.2.1 q h⟩
theorem jx_iret {v : Int32} (dc : decode y.2.1 pc = .ok (.ireturn, 1)) (hr : y.2.2.2 = some .int) (h1 : kc ≤ mc) (h2 : ks ≤ ms) (hz : Z (some (.int v)) M sz) : jx_V y hh G R (jx_Q1 G mc ms Z) pc l [.int v] M sz kc ks := by
  intro p L e s m args below meth c C K H locs ls hR hS hL
  obtain ⟨hx, hb, hr2, hml, hown, hts, hlk, hnm, hex, hst⟩ := id C
  refine W.widen h1 h2 ?_
  exact W.iret hx hb (hr2.trans hr) (fun t ht hW => jx_fin hR hS hz t ht) hS.2.2 dc hlk
theorem jx_zret {v : Int32} (dc : decode y.2.1 pc = .ok (.ireturn, 1)) (hr : y.2.2.2 = some .boolean) (hv : v = 0 ∨ v = 1) (h1 : kc ≤ mc) (h2 : ks ≤ ms) (hz : Z (some (.int v)) M sz) : jx_V y hh G R (jx_Q1 G mc ms Z) pc l [.int v] M sz kc ks := by
  intro p L e s m args below meth c C K H locs ls hR hS hL
  obtain ⟨hx, hb, hr2, hml, hown, hts, hlk, hnm, hex, hst⟩ := id C
  refine W.widen h1 h2 ?_
  exact W.zret hx hb (hr2.trans hr) (by rcases hv with rfl | rfl <;> rfl) (fun t ht hW => jx_fin hR hS hz t ht) hS.2.2 dc hlk
theorem jx_lret {v : Int64} (dc : decode y.2.1 pc = .ok (.lreturn, 1)) (hr : y.2.2.2 = some .long) (h1 : kc ≤ mc) (h2 : ks ≤ ms) (hz : Z (some (.long v)) M sz) : jx_V y hh G R (jx_Q1 G mc ms Z) pc l [.long v] M sz kc ks := by
  intro p L e s m args below meth c C K H locs ls hR hS hL
  obtain ⟨hx, hb, hr2, hml, hown, hts, hlk, hnm, hex, hst⟩ := id C
  refine W.widen h1 h2 ?_
  exact W.lret hx hb (hr2.trans hr) (fun t ht hW => jx_fin hR hS hz t ht) hS.2.2 dc hlk
theorem jx_vret (dc : decode y.2.1 pc = .ok (.return_, 1)) (hr : y.2.2.2 = none) (h1 : kc ≤ mc) (h2 : ks ≤ ms) (hz : Z none M sz) : jx_V y hh G R (jx_Q1 G mc ms Z) pc l [] M sz kc ks := by
  intro p L e s m args below meth c C K H locs ls hR hS hL
  obtain ⟨hx, hb, hr2, hml, hown, hts, hlk, hnm, hex, hst⟩ := id C
  refine W.widen h1 h2 ?_
  exact W.vret hx hb (hr2.trans hr) (fun t ht hW => jx_fin hR hS hz t ht) hS.2.2 dc hlk
theorem jx_aret {a : Nat} (dc : decode y.2.1 pc = .ok (.areturn, 1)) {rt : FieldType} (hr : y.2.2.2 = some rt) (hrt : (∃ n, rt = .object n) ∨ ∃ t, rt = .array t) (h1 : kc ≤ mc) (h2 : ks ≤ ms) (hz : Z (some (.ref a)) M sz) : jx_V y hh G R (jx_Q1 G mc ms Z) pc l [.ref a] M sz kc ks := by
  intro p L e s m args below meth c C K H locs ls hR hS hL
  obtain ⟨hx, hb, hr2, hml, hown, hts, hlk, hnm, hex, hst⟩ := id C
  refine W.widen h1 h2 ?_
  exact W.aret hx hb (hr2.trans hr) hrt (Or.inr ⟨a, rfl⟩) (fun t ht hW => jx_fin hR hS hz t ht) hS.2.2 dc hlk
/-- behind a call that has come back -/
theorem jx_back {p : Program} {L : Launch} {e : Env} {s : State} {m : MethodId} {args : Array Value} {below : List Frame} {meth : Method} {c : Code} {H : Heap} {locs : List Loc} {ls : Array Slot} {st0 rest : List Value} {mc2 ms2 : Nat} {Z2 : Option Value → jx_H → Nat → Prop} {as2 : Array Value}
    (C : jx_CX y hh p L s m args meth c) (K : jx_K G s) (hS : jx_S G s.heap H locs) (hL : jx_L ls y.2.2.1 l)
    (hr : va_Run p L e R s m args below meth c H locs kc ks mc2 ms2 (F0 m pc ls st0) rest (jx_Qr G Z2 as2) (fun q => jx_B G ≤ q))
    (k : ∀ v M' sz', Z2 v M' sz' → jx_V y hh G R Q (pc + 3) l (v.toList ++ rest) M' sz' (kc + mc2) (ks + ms2)) : W p L e R s m args below meth c H locs kc ks (Q args s below) (F0 m pc ls st0) := by
  intro T hT X
  obtain ⟨v, st₀, t, T', L', h0, X', hL', e1, e2, ⟨v', M', sz', hv, hz, hR', hsz, hk⟩, stp⟩ := hr T hT X
  cases hv
  rw [h0] at hsz hk
  obtain ⟨t2, a1, b1⟩ := k v M' sz' hz p L e s m args below meth c C K t.heap (locs ++ L') ls hR' (hS.call hsz hk hL') hL T' e1 X'
  exact ⟨t2, stp t2 a1, b1⟩
end JXC
