theorem nz_t {b : Bool} (h : ¬ b2i b = 0) : b = true := by
  cases b
  · exact absurd rfl h
  · rfl
theorem z_f {b : Bool} (h : b2i b = 0) : b = false := b2i_0.mp h
theorem in_t {x : Int32} {k : Nat} (hk : k < 1000) (h : ¬ b2i (decide ((0 : Int32) ≤ x ∧ x ≤ nI k)) = 0) : inB x (k + 1) = true := (inB_le hk).trans (nz_t h)
theorem in_f {x : Int32} {k : Nat} (hk : k < 1000) (h : b2i (decide ((0 : Int32) ≤ x ∧ x ≤ nI k)) = 0) : inB x (k + 1) = false := (inB_le hk).trans (z_f h)
theorem pred1 {x : Int32} {k : Nat} (h : x = nI k + 1) {y : Int32} (e : y = x - 1) : y = nI k := by rw [e, h, nI_1, nI_pred]
