/-! PART 04: calls -/
/-- what the tables say of a call's link -/
def jx_ML (own : String) (idx : Nat) (y2 : jx_md) (n : Nat) : Prop := Cond.methodLink own idx y2.1 ∈ jx_tb ∧ Cond.code y2.1 y2.2.1 y2.2.2.1 y2.2.2.2 ∈ jx_tb ∧ Cond.initialized y2.1.cls ∈ jx_tb ∧ (y2.1.cls ≠ "java/lang/invoke/MethodHandle" ∧ y2.1.cls ≠ "java/lang/invoke/VarHandle") ∧ (parseMethodDescriptor y2.1.desc).map (fun d => d.parameters.length) = some n
def jx_MV (own C : String) (idx : Nat) (y2 : jx_md) (n : Nat) : Prop := jx_ML own idx y2 n ∧ Cond.instanceMethod y2.1 ∈ jx_tb ∧ Cond.selects C y2.1 y2.1 ∈ jx_tb
def jx_MS (own : String) (idx : Nat) (y2 : jx_md) (n : Nat) : Prop := jx_ML own idx y2 n ∧ Cond.static y2.1 ∈ jx_tb
def jx_MI (own : String) (idx : Nat) (y2 : jx_md) (n : Nat) : Prop := jx_ML own idx y2 n ∧ y2.1.name = "<init>" ∧ Cond.instanceMethod y2.1 ∈ jx_tb ∧ y2.2.2.2 = none
def jx_ok (R : Room) (d2 maxL : Nat) : Prop := d2 + 2 ≤ R.frames ∧ 8 + (maxL + 11) + (32 * d2 + 100) ≤ R.locals
theorem jx_ok_rm {d d2 maxL mc ms : Nat} (h : d2 < d) (hm : maxL ≤ 13) : jx_ok (jx_rm d mc ms) d2 maxL := by
  unfold jx_ok jx_rm
  constructor
  · show d2 + 2 ≤ d + 1
    omega
  · show 8 + (maxL + 11) + (32 * d2 + 100) ≤ 32 * d + 100
    omega
theorem jx_recv {G : jx_G} {M : jx_H} {sz : Nat} {H : Heap} {s : State} {b ci : Nat} {fs : List Value} {C : String} {T : u_T} {N : Nat} (hR : jx_R G M sz H) (K : jx_K G s) (hb : M b = some (.inl (ci, fs))) (hc : vwCl[ci]? = some (C, T, N)) : ∃ cellB : Cell, H[b]? = some cellB ∧ cellB.vm.isStatics = false ∧ s.vm.findClass C = some cellB.cls := by
  have h : va_P (jx_D G) vwCl [(b, .inr (ci, fs))] H := fun k q hq => by
    match k, hq with
    | 0, hq => cases hq; exact (hR.2.2 b _ hb).2
    | k + 1, hq => simp at hq
  exact va_recv K.1 h (ci := ci) (q0 := 0) hc rfl
section JXK
variable {y y2 : jx_md} {hh : jx_h4} {G : jx_G} {d2 : Nat} {R : Room} {Q : Array Value → State → List Frame → State → Prop} {pc : Nat} {l : List (Option Value)} {rest : List Value} {M : jx_H} {sz kc ks mc2 ms2 : Nat} {idx : Nat}
theorem jx_cb {p : Program} {L : Launch} {s : State} {m : MethodId} {args : Array Value} {meth : Method} {c : Code} {n : Nat} (C : jx_CX y hh p L s m args meth c) (lk : jx_ML y.1.cls idx y2 n) (ok : jx_ok R d2 y2.2.2.1) : CallB R s args y.1.cls idx y2.1 y2.2.1 y2.2.2.1 y2.2.2.2 (jx_cw y2) (jx_rm d2 mc2 ms2) mc2 ms2 n := by
  obtain ⟨hx, hb, hr, hml, hown, hts, hlk, hnm, hex, hst⟩ := C
  obtain ⟨l1, l2, l3, l4, l5⟩ := lk
  have hG : ∀ w ∈ jx_cw y2, w ∈ jx_tb ∧ ((w.onTables && w.keeps) = true ∨ ∃ ty, w = .arrayClass ty) := by
    intro w hw
    rcases List.mem_cons.mp hw with h | h
    · subst h
      exact ⟨l2, jx_good _ l2⟩
    · exact ⟨h, jx_good _ h⟩
  refine ⟨rfl, rfl, ok.1, ok.2, pay_in hts hG, List.mem_cons_self, hts _ l2, hts _ l3, l4, fun sig h => ?_, hts _ l1⟩
  rw [h] at l5
  exact (Option.some.inj l5).symm
theorem jx_pcU {s : State} {as : List Value} {H : Heap} {locs : List Loc} (K : jx_K G s) (hR : jx_R G M sz H) (hS : jx_S G s.heap H locs) : ∀ U : State, U.heap = H → s.WarmedH U.vm → jx_Pc G as M sz as.toArray U := fun U hU hW => ⟨rfl, K.to hW (fun q h => by rw [hU]; exact hS.2.1 q h) (by rw [hU]; exact hS.1), by rw [hU]; exact hR⟩

theorem jx_callV0 {b ci : Nat} {fs : List Value} {C : String} {T : u_T} {N : Nat} (dc : decode y.2.1 pc = .ok (.invokevirtual idx, 3)) (lk : jx_MV y.1.cls C idx y2 0) (hb0 : M b = some (.inl (ci, fs))) (hc0 : vwCl[ci]? = some (C, T, N)) (ok : jx_ok R d2 y2.2.2.1) (hw : (rest.map fun v => v.category).sum ≤ 8) (h1 : kc + mc2 ≤ R.cells) (h2 : ks + ms2 ≤ R.slots) (ct : jx_Cr y2 G d2 (.ref b :: []) M sz mc2 ms2 (fun v M' sz' => jx_V y hh G R Q (pc + 3) l (v.toList ++ rest) M' sz' (kc + mc2) (ks + ms2))) : jx_V y hh G R Q pc l (.ref b :: rest) M sz kc ks := by
  intro p L e s m args below meth c CC K H locs ls hR hS hL
  obtain ⟨hx, hb, hr, hml, hown, hts, hlk, hnm, hex, hst⟩ := id CC
  refine jx_back CC K hS hL (va_runV (As := []) (b := b) (C := C) (rest := rest) (Ts := jx_tb) ⟨hx, hb, hml, hown, hts⟩ (ct L hst) ⟨jx_cb CC lk.1 ok, hts _ lk.2.1, hts _ lk.2.2⟩ ⟨jx_blind, jx_recv hR K hb0 hc0, jx_pcU K hR hS⟩ rfl rfl hL.1 rfl (lv_room (m := m) (pc := pc) (ls := ls) (rest := rest) hw) dc ⟨h1, h2⟩) (fun v M' sz' h => h)
theorem jx_callI0 {b : Nat} (dc : decode y.2.1 pc = .ok (.invokespecial idx, 3)) (lk : jx_MI y.1.cls idx y2 0) (ok : jx_ok R d2 y2.2.2.1) (hw : (rest.map fun v => v.category).sum ≤ 8) (h1 : kc + mc2 ≤ R.cells) (h2 : ks + ms2 ≤ R.slots) (ct : jx_Cr y2 G d2 (.ref b :: []) M sz mc2 ms2 (fun v M' sz' => jx_V y hh G R Q (pc + 3) l (v.toList ++ rest) M' sz' (kc + mc2) (ks + ms2))) : jx_V y hh G R Q pc l (.ref b :: rest) M sz kc ks := by
  intro p L e s m args below meth c CC K H locs ls hR hS hL
  obtain ⟨hx, hb, hr, hml, hown, hts, hlk, hnm, hex, hst⟩ := id CC
  have cb := jx_cb (mc2 := mc2) (ms2 := ms2) CC lk.1 ok
  rw [lk.2.2.2] at cb
  refine jx_back CC K hS hL (va_runI (As := []) (b := b) (rest := rest) (Ts := jx_tb) ⟨hx, hb, hml, hown, hts⟩ (ct L hst) ⟨cb, lk.2.1, hts _ lk.2.2.1⟩ ⟨jx_blind, jx_pcU K hR hS⟩ rfl rfl hL.1 rfl (lv_room (m := m) (pc := pc) (ls := ls) (rest := rest) hw) dc ⟨h1, h2⟩) (fun v M' sz' h => h)
theorem jx_callS0 (dc : decode y.2.1 pc = .ok (.invokestatic idx, 3)) (lk : jx_MS y.1.cls idx y2 0) (ok : jx_ok R d2 y2.2.2.1) (hw : (rest.map fun v => v.category).sum ≤ 8) (h1 : kc + mc2 ≤ R.cells) (h2 : ks + ms2 ≤ R.slots) (ct : jx_Cr y2 G d2 [] M sz mc2 ms2 (fun v M' sz' => jx_V y hh G R Q (pc + 3) l (v.toList ++ rest) M' sz' (kc + mc2) (ks + ms2))) : jx_V y hh G R Q pc l (rest) M sz kc ks := by
  intro p L e s m args below meth c CC K H locs ls hR hS hL
  obtain ⟨hx, hb, hr, hml, hown, hts, hlk, hnm, hex, hst⟩ := id CC
  refine jx_back CC K hS hL (va_runS (As := []) (rest := rest) (Ts := jx_tb) ⟨hx, hb, hml, hown, hts⟩ (ct L hst) ⟨jx_cb CC lk.1 ok, hts _ lk.2⟩ ⟨jx_blind, jx_pcU K hR hS⟩ rfl rfl hL.1 rfl (lv_room (m := m) (pc := pc) (ls := ls) (rest := rest) hw) dc ⟨h1, h2⟩) (fun v M' sz' h => h)
theorem jx_callV1 {x1 : Value} {b ci : Nat} {fs : List Value} {C : String} {T : u_T} {N : Nat} (dc : decode y.2.1 pc = .ok (.invokevirtual idx, 3)) (lk : jx_MV y.1.cls C idx y2 1) (hb0 : M b = some (.inl (ci, fs))) (hc0 : vwCl[ci]? = some (C, T, N)) (ok : jx_ok R d2 y2.2.2.1) (hw : (rest.map fun v => v.category).sum ≤ 8) (h1 : kc + mc2 ≤ R.cells) (h2 : ks + ms2 ≤ R.slots) (ct : jx_Cr y2 G d2 (.ref b :: [x1]) M sz mc2 ms2 (fun v M' sz' => jx_V y hh G R Q (pc + 3) l (v.toList ++ rest) M' sz' (kc + mc2) (ks + ms2))) : jx_V y hh G R Q pc l (x1 :: .ref b :: rest) M sz kc ks := by
  intro p L e s m args below meth c CC K H locs ls hR hS hL
  obtain ⟨hx, hb, hr, hml, hown, hts, hlk, hnm, hex, hst⟩ := id CC
  refine jx_back CC K hS hL (va_runV (As := [x1]) (b := b) (C := C) (rest := rest) (Ts := jx_tb) ⟨hx, hb, hml, hown, hts⟩ (ct L hst) ⟨jx_cb CC lk.1 ok, hts _ lk.2.1, hts _ lk.2.2⟩ ⟨jx_blind, jx_recv hR K hb0 hc0, jx_pcU K hR hS⟩ rfl rfl hL.1 rfl (lv_room (m := m) (pc := pc) (ls := ls) (rest := rest) hw) dc ⟨h1, h2⟩) (fun v M' sz' h => h)
theorem jx_callI1 {x1 : Value} {b : Nat} (dc : decode y.2.1 pc = .ok (.invokespecial idx, 3)) (lk : jx_MI y.1.cls idx y2 1) (ok : jx_ok R d2 y2.2.2.1) (hw : (rest.map fun v => v.category).sum ≤ 8) (h1 : kc + mc2 ≤ R.cells) (h2 : ks + ms2 ≤ R.slots) (ct : jx_Cr y2 G d2 (.ref b :: [x1]) M sz mc2 ms2 (fun v M' sz' => jx_V y hh G R Q (pc + 3) l (v.toList ++ rest) M' sz' (kc + mc2) (ks + ms2))) : jx_V y hh G R Q pc l (x1 :: .ref b :: rest) M sz kc ks := by
  intro p L e s m args below meth c CC K H locs ls hR hS hL
  obtain ⟨hx, hb, hr, hml, hown, hts, hlk, hnm, hex, hst⟩ := id CC
  have cb := jx_cb (mc2 := mc2) (ms2 := ms2) CC lk.1 ok
  rw [lk.2.2.2] at cb
  refine jx_back CC K hS hL (va_runI (As := [x1]) (b := b) (rest := rest) (Ts := jx_tb) ⟨hx, hb, hml, hown, hts⟩ (ct L hst) ⟨cb, lk.2.1, hts _ lk.2.2.1⟩ ⟨jx_blind, jx_pcU K hR hS⟩ rfl rfl hL.1 rfl (lv_room (m := m) (pc := pc) (ls := ls) (rest := rest) hw) dc ⟨h1, h2⟩) (fun v M' sz' h => h)
theorem jx_callS1 {x1 : Value} (dc : decode y.2.1 pc = .ok (.invokestatic idx, 3)) (lk : jx_MS y.1.cls idx y2 1) (ok : jx_ok R d2 y2.2.2.1) (hw : (rest.map fun v => v.category).sum ≤ 8) (h1 : kc + mc2 ≤ R.cells) (h2 : ks + ms2 ≤ R.slots) (ct : jx_Cr y2 G d2 [x1] M sz mc2 ms2 (fun v M' sz' => jx_V y hh G R Q (pc + 3) l (v.toList ++ rest) M' sz' (kc + mc2) (ks + ms2))) : jx_V y hh G R Q pc l (x1 :: rest) M sz kc ks := by
  intro p L e s m args below meth c CC K H locs ls hR hS hL
  obtain ⟨hx, hb, hr, hml, hown, hts, hlk, hnm, hex, hst⟩ := id CC
  refine jx_back CC K hS hL (va_runS (As := [x1]) (rest := rest) (Ts := jx_tb) ⟨hx, hb, hml, hown, hts⟩ (ct L hst) ⟨jx_cb CC lk.1 ok, hts _ lk.2⟩ ⟨jx_blind, jx_pcU K hR hS⟩ rfl rfl hL.1 rfl (lv_room (m := m) (pc := pc) (ls := ls) (rest := rest) hw) dc ⟨h1, h2⟩) (fun v M' sz' h => h)
theorem jx_callV2 {x1 x2 : Value} {b ci : Nat} {fs : List Value} {C : String} {T : u_T} {N : Nat} (dc : decode y.2.1 pc = .ok (.invokevirtual idx, 3)) (lk : jx_MV y.1.cls C idx y2 2) (hb0 : M b = some (.inl (ci, fs))) (hc0 : vwCl[ci]? = some (C, T, N)) (ok : jx_ok R d2 y2.2.2.1) (hw : (rest.map fun v => v.category).sum ≤ 8) (h1 : kc + mc2 ≤ R.cells) (h2 : ks + ms2 ≤ R.slots) (ct : jx_Cr y2 G d2 (.ref b :: [x1, x2]) M sz mc2 ms2 (fun v M' sz' => jx_V y hh G R Q (pc + 3) l (v.toList ++ rest) M' sz' (kc + mc2) (ks + ms2))) : jx_V y hh G R Q pc l (x2 :: x1 :: .ref b :: rest) M sz kc ks := by
  intro p L e s m args below meth c CC K H locs ls hR hS hL
  obtain ⟨hx, hb, hr, hml, hown, hts, hlk, hnm, hex, hst⟩ := id CC
  refine jx_back CC K hS hL (va_runV (As := [x1, x2]) (b := b) (C := C) (rest := rest) (Ts := jx_tb) ⟨hx, hb, hml, hown, hts⟩ (ct L hst) ⟨jx_cb CC lk.1 ok, hts _ lk.2.1, hts _ lk.2.2⟩ ⟨jx_blind, jx_recv hR K hb0 hc0, jx_pcU K hR hS⟩ rfl rfl hL.1 rfl (lv_room (m := m) (pc := pc) (ls := ls) (rest := rest) hw) dc ⟨h1, h2⟩) (fun v M' sz' h => h)
theorem jx_callI2 {x1 x2 : Value} {b : Nat} (dc : decode y.2.1 pc = .ok (.invokespecial idx, 3)) (lk : jx_MI y.1.cls idx y2 2) (ok : jx_ok R d2 y2.2.2.1) (hw : (rest.map fun v => v.category).sum ≤ 8) (h1 : kc + mc2 ≤ R.cells) (h2 : ks + ms2 ≤ R.slots) (ct : jx_Cr y2 G d2 (.ref b :: [x1, x2]) M sz mc2 ms2 (fun v M' sz' => jx_V y hh G R Q (pc + 3) l (v.toList ++ rest) M' sz' (kc + mc2) (ks + ms2))) : jx_V y hh G R Q pc l (x2 :: x1 :: .ref b :: rest) M sz kc ks := by
  intro p L e s m args below meth c CC K H locs ls hR hS hL
  obtain ⟨hx, hb, hr, hml, hown, hts, hlk, hnm, hex, hst⟩ := id CC
  have cb := jx_cb (mc2 := mc2) (ms2 := ms2) CC lk.1 ok
  rw [lk.2.2.2] at cb
  refine jx_back CC K hS hL (va_runI (As := [x1, x2]) (b := b) (rest := rest) (Ts := jx_tb) ⟨hx, hb, hml, hown, hts⟩ (ct L hst) ⟨cb, lk.2.1, hts _ lk.2.2.1⟩ ⟨jx_blind, jx_pcU K hR hS⟩ rfl rfl hL.1 rfl (lv_room (m := m) (pc := pc) (ls := ls) (rest := rest) hw) dc ⟨h1, h2⟩) (fun v M' sz' h => h)
theorem jx_callS2 {x1 x2 : Value} (dc : decode y.2.1 pc = .ok (.invokestatic idx, 3)) (lk : jx_MS y.1.cls idx y2 2) (ok : jx_ok R d2 y2.2.2.1) (hw : (rest.map fun v => v.category).sum ≤ 8) (h1 : kc + mc2 ≤ R.cells) (h2 : ks + ms2 ≤ R.slots) (ct : jx_Cr y2 G d2 [x1, x2] M sz mc2 ms2 (fun v M' sz' => jx_V y hh G R Q (pc + 3) l (v.toList ++ rest) M' sz' (kc + mc2) (ks + ms2))) : jx_V y hh G R Q pc l (x2 :: x1 :: rest) M sz kc ks := by
  intro p L e s m args below meth c CC K H locs ls hR hS hL
  obtain ⟨hx, hb, hr, hml, hown, hts, hlk, hnm, hex, hst⟩ := id CC
  refine jx_back CC K hS hL (va_runS (As := [x1, x2]) (rest := rest) (Ts := jx_tb) ⟨hx, hb, hml, hown, hts⟩ (ct L hst) ⟨jx_cb CC lk.1 ok, hts _ lk.2⟩ ⟨jx_blind, jx_pcU K hR hS⟩ rfl rfl hL.1 rfl (lv_room (m := m) (pc := pc) (ls := ls) (rest := rest) hw) dc ⟨h1, h2⟩) (fun v M' sz' h => h)
theorem jx_callV3 {x1 x2 x3 : Value} {b ci : Nat} {fs : List Value} {C : String} {T : u_T} {N : Nat} (dc : decode y.2.1 pc = .ok (.invokevirtual idx, 3)) (lk : jx_MV y.1.cls C idx y2 3) (hb0 : M b = some (.inl (ci, fs))) (hc0 : vwCl[ci]? = some (C, T, N)) (ok : jx_ok R d2 y2.2.2.1) (hw : (rest.map fun v => v.category).sum ≤ 8) (h1 : kc + mc2 ≤ R.cells) (h2 : ks + ms2 ≤ R.slots) (ct : jx_Cr y2 G d2 (.ref b :: [x1, x2, x3]) M sz mc2 ms2 (fun v M' sz' => jx_V y hh G R Q (pc + 3) l (v.toList ++ rest) M' sz' (kc + mc2) (ks + ms2))) : jx_V y hh G R Q pc l (x3 :: x2 :: x1 :: .ref b :: rest) M sz kc ks := by
  intro p L e s m args below meth c CC K H locs ls hR hS hL
  obtain ⟨hx, hb, hr, hml, hown, hts, hlk, hnm, hex, hst⟩ := id CC
  refine jx_back CC K hS hL (va_runV (As := [x1, x2, x3]) (b := b) (C := C) (rest := rest) (Ts := jx_tb) ⟨hx, hb, hml, hown, hts⟩ (ct L hst) ⟨jx_cb CC lk.1 ok, hts _ lk.2.1, hts _ lk.2.2⟩ ⟨jx_blind, jx_recv hR K hb0 hc0, jx_pcU K hR hS⟩ rfl rfl hL.1 rfl (lv_room (m := m) (pc := pc) (ls := ls) (rest := rest) hw) dc ⟨h1, h2⟩) (fun v M' sz' h => h)
theorem jx_callI3 {x1 x2 x3 : Value} {b : Nat} (dc : decode y.2.1 pc = .ok (.invokespecial idx, 3)) (lk : jx_MI y.1.cls idx y2 3) (ok : jx_ok R d2 y2.2.2.1) (hw : (rest.map fun v => v.category).sum ≤ 8) (h1 : kc + mc2 ≤ R.cells) (h2 : ks + ms2 ≤ R.slots) (ct : jx_Cr y2 G d2 (.ref b :: [x1, x2, x3]) M sz mc2 ms2 (fun v M' sz' => jx_V y hh G R Q (pc + 3) l (v.toList ++ rest) M' sz' (kc + mc2) (ks + ms2))) : jx_V y hh G R Q pc l (x3 :: x2 :: x1 :: .ref b :: rest) M sz kc ks := by
  intro p L e s m args below meth c CC K H locs ls hR hS hL
  obtain ⟨hx, hb, hr, hml, hown, hts, hlk, hnm, hex, hst⟩ := id CC
  have cb := jx_cb (mc2 := mc2) (ms2 := ms2) CC lk.1 ok
  rw [lk.2.2.2] at cb
  refine jx_back CC K hS hL (va_runI (As := [x1, x2, x3]) (b := b) (rest := rest) (Ts := jx_tb) ⟨hx, hb, hml, hown, hts⟩ (ct L hst) ⟨cb, lk.2.1, hts _ lk.2.2.1⟩ ⟨jx_blind, jx_pcU K hR hS⟩ rfl rfl hL.1 rfl (lv_room (m := m) (pc := pc) (ls := ls) (rest := rest) hw) dc ⟨h1, h2⟩) (fun v M' sz' h => h)
theorem jx_callS3 {x1 x2 x3 : Value} (dc : decode y.2.1 pc = .ok (.invokestatic idx, 3)) (lk : jx_MS y.1.cls idx y2 3) (ok : jx_ok R d2 y2.2.2.1) (hw : (rest.map fun v => v.category).sum ≤ 8) (h1 : kc + mc2 ≤ R.cells) (h2 : ks + ms2 ≤ R.slots) (ct : jx_Cr y2 G d2 [x1, x2, x3] M sz mc2 ms2 (fun v M' sz' => jx_V y hh G R Q (pc + 3) l (v.toList ++ rest) M' sz' (kc + mc2) (ks + ms2))) : jx_V y hh G R Q pc l (x3 :: x2 :: x1 :: rest) M sz kc ks := by
  intro p L e s m args below meth c CC K H locs ls hR hS hL
  obtain ⟨hx, hb, hr, hml, hown, hts, hlk, hnm, hex, hst⟩ := id CC
  refine jx_back CC K hS hL (va_runS (As := [x1, x2, x3]) (rest := rest) (Ts := jx_tb) ⟨hx, hb, hml, hown, hts⟩ (ct L hst) ⟨jx_cb CC lk.1 ok, hts _ lk.2⟩ ⟨jx_blind, jx_pcU K hR hS⟩ rfl rfl hL.1 rfl (lv_room (m := m) (pc := pc) (ls := ls) (rest := rest) hw) dc ⟨h1, h2⟩) (fun v M' sz' h => h)
theorem jx_callV4 {x1 x2 x3 x4 : Value} {b ci : Nat} {fs : List Value} {C : String} {T : u_T} {N : Nat} (dc : decode y.2.1 pc = .ok (.invokevirtual idx, 3)) (lk : jx_MV y.1.cls C idx y2 4) (hb0 : M b = some (.inl (ci, fs))) (hc0 : vwCl[ci]? = some (C, T, N)) (ok : jx_ok R d2 y2.2.2.1) (hw : (rest.map fun v => v.category).sum ≤ 8) (h1 : kc + mc2 ≤ R.cells) (h2 : ks + ms2 ≤ R.slots) (ct : jx_Cr y2 G d2 (.ref b :: [x1, x2, x3, x4]) M sz mc2 ms2 (fun v M' sz' => jx_V y hh G R Q (pc + 3) l (v.toList ++ rest) M' sz' (kc + mc2) (ks + ms2))) : jx_V y hh G R Q pc l (x4 :: x3 :: x2 :: x1 :: .ref b :: rest) M sz kc ks := by
  intro p L e s m args below meth c CC K H locs ls hR hS hL
  obtain ⟨hx, hb, hr, hml, hown, hts, hlk, hnm, hex, hst⟩ := id CC
  refine jx_back CC K hS hL (va_runV (As := [x1, x2, x3, x4]) (b := b) (C := C) (rest := rest) (Ts := jx_tb) ⟨hx, hb, hml, hown, hts⟩ (ct L hst) ⟨jx_cb CC lk.1 ok, hts _ lk.2.1, hts _ lk.2.2⟩ ⟨jx_blind, jx_recv hR K hb0 hc0, jx_pcU K hR hS⟩ rfl rfl hL.1 rfl (lv_room (m := m) (pc := pc) (ls := ls) (rest := rest) hw) dc ⟨h1, h2⟩) (fun v M' sz' h => h)
theorem jx_callI4 {x1 x2 x3 x4 : Value} {b : Nat} (dc : decode y.2.1 pc = .ok (.invokespecial idx, 3)) (lk : jx_MI y.1.cls idx y2 4) (ok : jx_ok R d2 y2.2.2.1) (hw : (rest.map fun v => v.category).sum ≤ 8) (h1 : kc + mc2 ≤ R.cells) (h2 : ks + ms2 ≤ R.slots) (ct : jx_Cr y2 G d2 (.ref b :: [x1, x2, x3, x4]) M sz mc2 ms2 (fun v M' sz' => jx_V y hh G R Q (pc + 3) l (v.toList ++ rest) M' sz' (kc + mc2) (ks + ms2))) : jx_V y hh G R Q pc l (x4 :: x3 :: x2 :: x1 :: .ref b :: rest) M sz kc ks := by
  intro p L e s m args below meth c CC K H locs ls hR hS hL
  obtain ⟨hx, hb, hr, hml, hown, hts, hlk, hnm, hex, hst⟩ := id CC
  have cb := jx_cb (mc2 := mc2) (ms2 := ms2) CC lk.1 ok
  rw [lk.2.2.2] at cb
  refine jx_back CC K hS hL (va_runI (As := [x1, x2, x3, x4]) (b := b) (rest := rest) (Ts := jx_tb) ⟨hx, hb, hml, hown, hts⟩ (ct L hst) ⟨cb, lk.2.1, hts _ lk.2.2.1⟩ ⟨jx_blind, jx_pcU K hR hS⟩ rfl rfl hL.1 rfl (lv_room (m := m) (pc := pc) (ls := ls) (rest := rest) hw) dc ⟨h1, h2⟩) (fun v M' sz' h => h)
theorem jx_callS4 {x1 x2 x3 x4 : Value} (dc : decode y.2.1 pc = .ok (.invokestatic idx, 3)) (lk : jx_MS y.1.cls idx y2 4) (ok : jx_ok R d2 y2.2.2.1) (hw : (rest.map fun v => v.category).sum ≤ 8) (h1 : kc + mc2 ≤ R.cells) (h2 : ks + ms2 ≤ R.slots) (ct : jx_Cr y2 G d2 [x1, x2, x3, x4] M sz mc2 ms2 (fun v M' sz' => jx_V y hh G R Q (pc + 3) l (v.toList ++ rest) M' sz' (kc + mc2) (ks + ms2))) : jx_V y hh G R Q pc l (x4 :: x3 :: x2 :: x1 :: rest) M sz kc ks := by
  intro p L e s m args below meth c CC K H locs ls hR hS hL
  obtain ⟨hx, hb, hr, hml, hown, hts, hlk, hnm, hex, hst⟩ := id CC
  refine jx_back CC K hS hL (va_runS (As := [x1, x2, x3, x4]) (rest := rest) (Ts := jx_tb) ⟨hx, hb, hml, hown, hts⟩ (ct L hst) ⟨jx_cb CC lk.1 ok, hts _ lk.2⟩ ⟨jx_blind, jx_pcU K hR hS⟩ rfl rfl hL.1 rfl (lv_room (m := m) (pc := pc) (ls := ls) (rest := rest) hw) dc ⟨h1, h2⟩) (fun v M' sz' h => h)
theorem jx_callV5 {x1 x2 x3 x4 x5 : Value} {b ci : Nat} {fs : List Value} {C : String} {T : u_T} {N : Nat} (dc : decode y.2.1 pc = .ok (.invokevirtual idx, 3)) (lk : jx_MV y.1.cls C idx y2 5) (hb0 : M b = some (.inl (ci, fs))) (hc0 : vwCl[ci]? = some (C, T, N)) (ok : jx_ok R d2 y2.2.2.1) (hw : (rest.map fun v => v.category).sum ≤ 8) (h1 : kc + mc2 ≤ R.cells) (h2 : ks + ms2 ≤ R.slots) (ct : jx_Cr y2 G d2 (.ref b :: [x1, x2, x3, x4, x5]) M sz mc2 ms2 (fun v M' sz' => jx_V y hh G R Q (pc + 3) l (v.toList ++ rest) M' sz' (kc + mc2) (ks + ms2))) : jx_V y hh G R Q pc l (x5 :: x4 :: x3 :: x2 :: x1 :: .ref b :: rest) M sz kc ks := by
  intro p L e s m args below meth c CC K H locs ls hR hS hL
  obtain ⟨hx, hb, hr, hml, hown, hts, hlk, hnm, hex, hst⟩ := id CC
  refine jx_back CC K hS hL (va_runV (As := [x1, x2, x3, x4, x5]) (b := b) (C := C) (rest := rest) (Ts := jx_tb) ⟨hx, hb, hml, hown, hts⟩ (ct L hst) ⟨jx_cb CC lk.1 ok, hts _ lk.2.1, hts _ lk.2.2⟩ ⟨jx_blind, jx_recv hR K hb0 hc0, jx_pcU K hR hS⟩ rfl rfl hL.1 rfl (lv_room (m := m) (pc := pc) (ls := ls) (rest := rest) hw) dc ⟨h1, h2⟩) (fun v M' sz' h => h)
theorem jx_callI5 {x1 x2 x3 x4 x5 : Value} {b : Nat} (dc : decode y.2.1 pc = .ok (.invokespecial idx, 3)) (lk : jx_MI y.1.cls idx y2 5) (ok : jx_ok R d2 y2.2.2.1) (hw : (rest.map fun v => v.category).sum ≤ 8) (h1 : kc + mc2 ≤ R.cells) (h2 : ks + ms2 ≤ R.slots) (ct : jx_Cr y2 G d2 (.ref b :: [x1, x2, x3, x4, x5]) M sz mc2 ms2 (fun v M' sz' => jx_V y hh G R Q (pc + 3) l (v.toList ++ rest) M' sz' (kc + mc2) (ks + ms2))) : jx_V y hh G R Q pc l (x5 :: x4 :: x3 :: x2 :: x1 :: .ref b :: rest) M sz kc ks := by
  intro p L e s m args below meth c CC K H locs ls hR hS hL
  obtain ⟨hx, hb, hr, hml, hown, hts, hlk, hnm, hex, hst⟩ := id CC
  have cb := jx_cb (mc2 := mc2) (ms2 := ms2) CC lk.1 ok
  rw [lk.2.2.2] at cb
  refine jx_back CC K hS hL (va_runI (As := [x1, x2, x3, x4, x5]) (b := b) (rest := rest) (Ts := jx_tb) ⟨hx, hb, hml, hown, hts⟩ (ct L hst) ⟨cb, lk.2.1, hts _ lk.2.2.1⟩ ⟨jx_blind, jx_pcU K hR hS⟩ rfl rfl hL.1 rfl (lv_room (m := m) (pc := pc) (ls := ls) (rest := rest) hw) dc ⟨h1, h2⟩) (fun v M' sz' h => h)
theorem jx_callS5 {x1 x2 x3 x4 x5 : Value} (dc : decode y.2.1 pc = .ok (.invokestatic idx, 3)) (lk : jx_MS y.1.cls idx y2 5) (ok : jx_ok R d2 y2.2.2.1) (hw : (rest.map fun v => v.category).sum ≤ 8) (h1 : kc + mc2 ≤ R.cells) (h2 : ks + ms2 ≤ R.slots) (ct : jx_Cr y2 G d2 [x1, x2, x3, x4, x5] M sz mc2 ms2 (fun v M' sz' => jx_V y hh G R Q (pc + 3) l (v.toList ++ rest) M' sz' (kc + mc2) (ks + ms2))) : jx_V y hh G R Q pc l (x5 :: x4 :: x3 :: x2 :: x1 :: rest) M sz kc ks := by
  intro p L e s m args below meth c CC K H locs ls hR hS hL
  obtain ⟨hx, hb, hr, hml, hown, hts, hlk, hnm, hex, hst⟩ := id CC
  refine jx_back CC K hS hL (va_runS (As := [x1, x2, x3, x4, x5]) (rest := rest) (Ts := jx_tb) ⟨hx, hb, hml, hown, hts⟩ (ct L hst) ⟨jx_cb CC lk.1 ok, hts _ lk.2⟩ ⟨jx_blind, jx_pcU K hR hS⟩ rfl rfl hL.1 rfl (lv_room (m := m) (pc := pc) (ls := ls) (rest := rest) hw) dc ⟨h1, h2⟩) (fun v M' sz' h => h)
theorem jx_callV6 {x1 x2 x3 x4 x5 x6 : Value} {b ci : Nat} {fs : List Value} {C : String} {T : u_T} {N : Nat} (dc : decode y.2.1 pc = .ok (.invokevirtual idx, 3)) (lk : jx_MV y.1.cls C idx y2 6) (hb0 : M b = some (.inl (ci, fs))) (hc0 : vwCl[ci]? = some (C, T, N)) (ok : jx_ok R d2 y2.2.2.1) (hw : (rest.map fun v => v.category).sum ≤ 8) (h1 : kc + mc2 ≤ R.cells) (h2 : ks + ms2 ≤ R.slots) (ct : jx_Cr y2 G d2 (.ref b :: [x1, x2, x3, x4, x5, x6]) M sz mc2 ms2 (fun v M' sz' => jx_V y hh G R Q (pc + 3) l (v.toList ++ rest) M' sz' (kc + mc2) (ks + ms2))) : jx_V y hh G R Q pc l (x6 :: x5 :: x4 :: x3 :: x2 :: x1 :: .ref b :: rest) M sz kc ks := by
  intro p L e s m args below meth c CC K H locs ls hR hS hL
  obtain ⟨hx, hb, hr, hml, hown, hts, hlk, hnm, hex, hst⟩ := id CC
  refine jx_back CC K hS hL (va_runV (As := [x1, x2, x3, x4, x5, x6]) (b := b) (C := C) (rest := rest) (Ts := jx_tb) ⟨hx, hb, hml, hown, hts⟩ (ct L hst) ⟨jx_cb CC lk.1 ok, hts _ lk.2.1, hts _ lk.2.2⟩ ⟨jx_blind, jx_recv hR K hb0 hc0, jx_pcU K hR hS⟩ rfl rfl hL.1 rfl (lv_room (m := m) (pc := pc) (ls := ls) (rest := rest) hw) dc ⟨h1, h2⟩) (fun v M' sz' h => h)
theorem jx_callI6 {x1 x2 x3 x4 x5 x6 : Value} {b : Nat} (dc : decode y.2.1 pc = .ok (.invokespecial idx, 3)) (lk : jx_MI y.1.cls idx y2 6) (ok : jx_ok R d2 y2.2.2.1) (hw : (rest.map fun v => v.category).sum ≤ 8) (h1 : kc + mc2 ≤ R.cells) (h2 : ks + ms2 ≤ R.slots) (ct : jx_Cr y2 G d2 (.ref b :: [x1, x2, x3, x4, x5, x6]) M sz mc2 ms2 (fun v M' sz' => jx_V y hh G R Q (pc + 3) l (v.toList ++ rest) M' sz' (kc + mc2) (ks + ms2))) : jx_V y hh G R Q pc l (x6 :: x5 :: x4 :: x3 :: x2 :: x1 :: .ref b :: rest) M sz kc ks := by
  intro p L e s m args below meth c CC K H locs ls hR hS hL
  obtain ⟨hx, hb, hr, hml, hown, hts, hlk, hnm, hex, hst⟩ := id CC
  have cb := jx_cb (mc2 := mc2) (ms2 := ms2) CC lk.1 ok
  rw [lk.2.2.2] at cb
  refine jx_back CC K hS hL (va_runI (As := [x1, x2, x3, x4, x5, x6]) (b := b) (rest := rest) (Ts := jx_tb) ⟨hx, hb, hml, hown, hts⟩ (ct L hst) ⟨cb, lk.2.1, hts _ lk.2.2.1⟩ ⟨jx_blind, jx_pcU K hR hS⟩ rfl rfl hL.1 rfl (lv_room (m := m) (pc := pc) (ls := ls) (rest := rest) hw) dc ⟨h1, h2⟩) (fun v M' sz' h => h)
theorem jx_callS6 {x1 x2 x3 x4 x5 x6 : Value} (dc : decode y.2.1 pc = .ok (.invokestatic idx, 3)) (lk : jx_MS y.1.cls idx y2 6) (ok : jx_ok R d2 y2.2.2.1) (hw : (rest.map fun v => v.category).sum ≤ 8) (h1 : kc + mc2 ≤ R.cells) (h2 : ks + ms2 ≤ R.slots) (ct : jx_Cr y2 G d2 [x1, x2, x3, x4, x5, x6] M sz mc2 ms2 (fun v M' sz' => jx_V y hh G R Q (pc + 3) l (v.toList ++ rest) M' sz' (kc + mc2) (ks + ms2))) : jx_V y hh G R Q pc l (x6 :: x5 :: x4 :: x3 :: x2 :: x1 :: rest) M sz kc ks := by
  intro p L e s m args below meth c CC K H locs ls hR hS hL
  obtain ⟨hx, hb, hr, hml, hown, hts, hlk, hnm, hex, hst⟩ := id CC
  refine jx_back CC K hS hL (va_runS (As := [x1, x2, x3, x4, x5, x6]) (rest := rest) (Ts := jx_tb) ⟨hx, hb, hml, hown, hts⟩ (ct L hst) ⟨jx_cb CC lk.1 ok, hts _ lk.2⟩ ⟨jx_blind, jx_pcU K hR hS⟩ rfl rfl hL.1 rfl (lv_room (m := m) (pc := pc) (ls := ls) (rest := rest) hw) dc ⟨h1, h2⟩) (fun v M' sz' h => h)
end JXK
