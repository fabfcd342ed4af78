/-! PART 35: methods with an exception table; calls of methods that may throw -/
def jx_hw (y : jx_md) (hh : jx_h4) : List Cond := Cond.codeWith y.1 y.2.1 y.2.2.1 y.2.2.2 hh :: jx_tb
def jx_Ch (y : jx_md) (hh : jx_h4) (G : jx_G) (d : Nat) (as : List Value) (M : jx_H) (sz mc ms : Nat) (Z : Option Value → jx_H → Nat → Prop) : Prop := ∀ L : Launch, L.stackTraces = false → Met L y.1 (jx_hw y hh) (jx_rm d mc ms) (jx_Pc G as M sz) (jx_Qr G Z) mc ms (fun q => jx_B G ≤ q)
theorem jx_tof (hh : jx_h4) : (tableOf hh).map (fun h => (h.startPc, h.endPc, h.handlerPc, h.catchType)) = hh := by
  unfold tableOf
  rw [List.map_map]
  exact List.map_id'' (fun _ => rfl) hh
section JXH
variable {y y2 : jx_md} {hh : jx_h4} {G : jx_G} {d d2 : Nat} {R : Room} {Q : Array Value → State → List Frame → State → Prop} {pc idx : Nat} {l : List (Option Value)} {st rest : List Value} {M : jx_H} {sz kc ks mc ms mc2 ms2 : Nat} {Z : Option Value → jx_H → Nat → Prop} {E : String}
theorem jx_enth {as : List Value} (hy : plainName y.1.cls = true) (hn : (lg_sl as).length ≤ y.2.2.1) (hl : jx_le (jx_eas as) l) (k : (∀ a e, M a = some e → a < sz) → jx_V y hh G (jx_rm d mc ms) (jx_Q1 G mc ms Z) 0 l [] M sz 0 0) : jx_Ch y hh G d as M sz mc ms Z := by
  intro L hst
  refine va_MetW (cc := y.2.1) (maxL := y.2.2.1) (ret := y.2.2.2) (hh := hh) hy rfl ?_
  intro p e s m args below meth c s₁ X hml hv
  obtain ⟨rfl, hK, hR⟩ := hv
  have hts := atoms_spec (ws := jx_hw y hh) X.pre
  have hcd := hts _ (List.mem_cons_self)
  have hown : s.vm.findClass y.1.cls = some m.cls := findClass_of_methodNamed X.named
  have htb : c.exceptionTable.toList = tableOf hh := vx_table (x := y.1) X hcd
  rw [lg_entry_eq]
  refine k (fun a e h => hR.lt h) p L e s m _ below meth c ⟨X.exec, X.bytes, X.returns, hml, hown, fun w hw => hts w (List.mem_cons_of_mem _ hw), X.notSynchronized, (name_of_methodNamed X.named X.method).1, ?_, hst⟩ hK s.heap [] _ hR ⟨Nat.le_refl _, fun _ _ => rfl, fun _ h => by cases h⟩ (jx_L.entry hn hl)
  rw [htb]
  exact jx_tof hh
/-- E is thrown over the frame at pc -/
def jx_U (y : jx_md) (hh : jx_h4) (G : jx_G) (R : Room) (Q : Array Value → State → List Frame → State → Prop) (E : String) (pc : Nat) (l : List (Option Value)) (M : jx_H) (sz kc ks : Nat) : Prop :=
  ∀ (p : Program) (L : Launch) (e : Env) (s : State) (m : MethodId) (args : Array Value) (below : List Frame) (meth : Method) (c : Code), jx_CX y hh p L s m args meth c → jx_K G s →
    ∀ (H : Heap) (locs : List Loc) (ls : Array Slot) (rest : List Value) (q : Addr) (ce : Cell), jx_R G M sz H → jx_S G s.heap H locs → jx_L ls y.2.2.1 l → H[q]? = some ce → ce.vm = .none → s.vm.findClass E = some ce.cls → vx_W p L e R s m args below meth c H locs kc ks (Q args s below) (F0 m pc ls rest) q
theorem jx_catch {nm : String} (pre : jx_h4) (x : Nat × Nat × Nat × Nat) (suf : jx_h4) (hs : hh = pre ++ x :: suf) (hpass : ∀ z ∈ pre, z.2.2.2 ≠ 0 ∧ ∃ nmz, Cond.classLink y.1.cls z.2.2.2 nmz ∈ jx_tb ∧ (E, nmz) ∈ jx_ncs) (hcov : x.1 ≤ pc ∧ pc < x.2.1) (h0 : x.2.2.2 ≠ 0) (hl : Cond.classLink y.1.cls x.2.2.2 nm ∈ jx_tb) (hc : Cond.castable E nm ∈ jx_nb) (k : ∀ q, jx_V y hh G R Q x.2.2.1 l [.ref q] M sz kc ks) : jx_U y hh G R Q E pc l M sz kc ks := by
  intro p L e s m args below meth c C K H locs ls rest q ce hR hS hL hce hcv hcl
  obtain ⟨hx, hb, hr, hml, hown, hts, hlk, hnm, hex, hst⟩ := id C
  have htb : c.exceptionTable.toList = tableOf hh := by rw [← table_eq c.exceptionTable.toList, hex]
  have hcast : (Cond.castable E nm).before args s = true := va_Nw.use rfl (K.2.1 _ hc)
  refine vx_catch (own := y.1.cls) (name := nm) (E := E) hown (tableOf pre) ⟨x.1, x.2.1, x.2.2.1, x.2.2.2⟩ (tableOf suf) (by rw [htb, hs]; simp [tableOf]) (fun z hz => ?_) ?_ h0 (hts _ hl) hcast hce hcv hcl (k q p L e s m args below meth c C K H locs ls hR hS hL)
  · obtain ⟨z0, hz0, rfl⟩ := List.mem_map.mp hz
    obtain ⟨g0, nmz, g1, g2⟩ := hpass z0 hz0
    exact Or.inr ⟨g0, nmz, hts _ g1, K.2.2.2.2.2.2.2.2.2.2.2 _ g2⟩
  · simp [covers, hcov.1, hcov.2]
theorem jx_backx {p : Program} {L : Launch} {e : Env} {s : State} {m : MethodId} {args : Array Value} {below : List Frame} {meth : Method} {c : Code} {H : Heap} {locs : List Loc} {ls : Array Slot} {st0 : List Value} {Z2 : Option Value → jx_H → Nat → Prop} {ZX2 : String → jx_H → Nat → Prop} {as2 : Array Value}
    (C : jx_CX y hh p L s m args meth c) (K : jx_K G s) (hS : jx_S G s.heap H locs) (hL : jx_L ls y.2.2.1 l)
    (hr : vx_Run p L e R s m args below meth c H locs kc ks mc2 ms2 (F0 m pc ls st0) rest (jx_Qr G Z2 as2) (jx_Xx G ZX2) (fun q => jx_B G ≤ q))
    (k : ∀ v M' sz', Z2 v M' sz' → jx_V y hh G R Q (pc + 3) l (v.toList ++ rest) M' sz' (kc + mc2) (ks + ms2)) (kx : ∀ E M' sz', ZX2 E M' sz' → jx_U y hh G R Q E pc l M' sz' (kc + mc2) (ks + ms2)) : W p L e R s m args below meth c H locs kc ks (Q args s below) (F0 m pc ls st0) := by
  intro T hT X
  rcases hr T hT X with ⟨v, st₀, t, T', L', h0, X', hL', e1, e2, ⟨v', M', sz', hv, hz, hR', hsz, hk⟩, stp⟩ | ⟨q, st₀, t, T', L', E, ce, h0, X', hL', e1, e2, ⟨M', sz', hz, hR', hsz, hk⟩, hce, hcv, hcl, stp⟩
  · cases hv
    rw [h0] at hsz hk
    obtain ⟨t2, a1, b1⟩ := k v M' sz' hz p L e s m args below meth c C K t.heap (locs ++ L') ls hR' (hS.call hsz hk hL') hL T' e1 X'
    exact ⟨t2, stp t2 a1, b1⟩
  · rw [h0] at hsz hk
    obtain ⟨t2, a1, b1⟩ := kx E M' sz' hz p L e s m args below meth c C K t.heap (locs ++ L') ls rest q ce hR' (hS.call hsz hk hL') hL hce hcv hcl T' e1 X'
    exact ⟨t2, stp.trans a1, b1⟩
/-- a call of a method that may throw -/
theorem jx_callX {As : List Value} {b ci n : Nat} {fs : List Value} {C : String} {T : u_T} {N : Nat} (dc : decode y.2.1 pc = .ok (.invokevirtual idx, 3)) (lk : jx_MV y.1.cls C idx y2 n) (hb0 : M b = some (.inl (ci, fs))) (hc0 : vwCl[ci]? = some (C, T, N)) (ok : jx_ok R d2 y2.2.2.1) (hn : As.length = n) (hstk : st = As.reverse ++ .ref b :: rest) (hw : (rest.map fun v => v.category).sum ≤ 8) (h1 : kc + mc2 ≤ R.cells) (h2 : ks + ms2 ≤ R.slots) (ct : jx_Cx y2 G d2 (.ref b :: As) M sz mc2 ms2 (fun v M' sz' => jx_V y hh G R Q (pc + 3) l (v.toList ++ rest) M' sz' (kc + mc2) (ks + ms2)) (fun E M' sz' => jx_U y hh G R Q E pc l M' sz' (kc + mc2) (ks + ms2))) : jx_V y hh G R Q pc l st M sz kc ks := by
  intro p L e s m args below meth c CC K H locs ls hR hS hL
  obtain ⟨hx, hb, hr, hml, hown, hts, hlk, hnm, hex, hst⟩ := id CC
  subst hstk
  refine jx_backx CC K hS hL (vx_runV (As := As) (b := b) (C := C) (rest := rest) (Ts := jx_tb) ⟨hx, hb, hml, hown, hts⟩ (ct L hst) ⟨jx_cb CC lk.1 ok, hts _ lk.2.1, hts _ lk.2.2⟩ ⟨jx_blind, jx_recv hR K hb0 hc0, jx_pcU K hR hS⟩ rfl hn hL.1 rfl (lv_room (m := m) (pc := pc) (ls := ls) (rest := rest) hw) dc ⟨h1, h2⟩) (fun v M' sz' h => h) (fun E M' sz' h => h)
/-- a static call of a method with an exception table -/
theorem jx_callH {hh2 : jx_h4} {As : List Value} {n : Nat} (dc : decode y.2.1 pc = .ok (.invokestatic idx, 3)) (lk : Cond.methodLink y.1.cls idx y2.1 ∈ jx_tb ∧ Cond.codeWith y2.1 y2.2.1 y2.2.2.1 y2.2.2.2 hh2 ∈ jx_tb ∧ Cond.initialized y2.1.cls ∈ jx_tb ∧ Cond.static y2.1 ∈ jx_tb) (hd : y2.1.cls ≠ "java/lang/invoke/MethodHandle" ∧ y2.1.cls ≠ "java/lang/invoke/VarHandle" ∧ (parseMethodDescriptor y2.1.desc).map (fun d => d.parameters.length) = some n) (ok : jx_ok R d2 y2.2.2.1) (hn : As.length = n) (hstk : st = As.reverse ++ rest) (hw : (rest.map fun v => v.category).sum ≤ 8) (h1 : kc + mc2 ≤ R.cells) (h2 : ks + ms2 ≤ R.slots) (ct : jx_Ch y2 hh2 G d2 As M sz mc2 ms2 (fun v M' sz' => jx_V y hh G R Q (pc + 3) l (v.toList ++ rest) M' sz' (kc + mc2) (ks + ms2))) : jx_V y hh G R Q pc l st M sz kc ks := by
  intro p L e s m args below meth c CC K H locs ls hR hS hL
  obtain ⟨hx, hb, hr, hml, hown, hts, hlk, hnm, hex, hst⟩ := id CC
  subst hstk
  have hG : ∀ w ∈ jx_hw y2 hh2, w ∈ jx_tb ∧ ((w.onTables && w.keeps) = true ∨ ∃ ty, w = .arrayClass ty) := by
    intro w hw
    rcases List.mem_cons.mp hw with h | h
    · subst h
      exact ⟨lk.2.1, jx_good _ lk.2.1⟩
    · exact ⟨h, jx_good _ h⟩
  have cw : vx_CSW R s args y.1.cls idx y2.1 y2.2.1 y2.2.2.1 y2.2.2.2 hh2 (jx_hw y2 hh2) (jx_rm d2 mc2 ms2) mc2 ms2 n := by
    refine ⟨⟨rfl, rfl, ok.1, ok.2, pay_in hts hG, List.mem_cons_self⟩, hts _ lk.2.1, hts _ lk.2.2.1, ⟨hd.1, hd.2.1⟩, fun sig h => ?_, hts _ lk.1, hts _ lk.2.2.2⟩
    have h5 := hd.2.2
    rw [h] at h5
    exact (Option.some.inj h5).symm
  exact jx_back CC K hS hL (vx_runSW (As := As) (rest := rest) (Ts := jx_tb) (hh := hh2) ⟨hx, hb, hml, hown, hts⟩ (ct L hst) cw ⟨jx_blind, jx_pcU K hR hS⟩ rfl hn hL.1 rfl (lv_room (m := m) (pc := pc) (ls := ls) (rest := rest) hw) dc ⟨h1, h2⟩) (fun v M' sz' h => h)
end JXH
theorem nk_L_13 : Cond.classLink "KeyedFoldsLaw" 13 xIA ∈ jx_tb := jx_mem 162 (by decide +kernel) rfl
theorem nk_L_15 : Cond.classLink "KeyedFoldsLaw" 15 xIS ∈ jx_tb := jx_mem 163 (by decide +kernel) rfl
theorem nk_L_21 : Cond.classLink "KeyedFoldsLaw" 21 xIO ∈ jx_tb := jx_mem 342 (by decide +kernel) rfl
theorem nx_IA : Cond.castable xIA xIA ∈ jx_nb := jx_nbm 170 (by decide +kernel) rfl
theorem nx_IS : Cond.castable xIS xIS ∈ jx_nb := jx_nbm 242 (by decide +kernel) rfl
theorem nx_IO : Cond.castable xIO xIO ∈ jx_nb := jx_nbm 353 (by decide +kernel) rfl
