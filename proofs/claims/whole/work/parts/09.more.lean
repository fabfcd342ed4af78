/-! PART 09: small rows -/
theorem jx_rmc {d mc ms k : Nat} (h : k ≤ mc) : k ≤ (jx_rm d mc ms).cells := h
theorem jx_rms {d mc ms k : Nat} (h : k ≤ ms) : k ≤ (jx_rm d mc ms).slots := h
theorem jx_rml {d mc ms k : Nat} (h : k + 12 ≤ 100) : k + 12 ≤ (jx_rm d mc ms).locals := Nat.le_trans h (Nat.le_add_left _ _)
theorem nz_F : ∀ j, j < 5 → defaultValue (nt_F j) = vp_V [.int 0, .long 0, .long 0, .int 0, .null] j := by decide
theorem nz_R : ∀ j, j < 7 → defaultValue (nt_R j) = vp_V [.long 0, .null, .null, .null, .int 0, .int 0, .null] j := by decide
theorem nz_S : ∀ j, j < 2 → defaultValue (nt_S j) = vp_V [.null, .int 0] j := by decide
theorem nz_T : ∀ j, j < 4 → defaultValue (nt_T j) = vp_V [.int 0, .int 0, .int 0, .null] j := by decide
theorem nz_A : ∀ j, j < 3 → defaultValue (nt_A j) = vp_V [.int 0, .null, .int 0] j := by decide
theorem nz_K : ∀ j, j < 18 → defaultValue (nt_K j) = vp_V [.int 0, .int 0, .int 0, .int 0, .null, .null, .null, .null, .null, .int 0, .int 0, .long 0, .long 0, .int 0, .int 0, .int 0, .int 0, .int 0] j := by decide
