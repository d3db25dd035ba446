theorem inB_le {x : Int32} {k : Nat} (hk : k < 1000) : inB x (k + 1) = decide (0 ≤ x ∧ x ≤ nI k) := by
  unfold inB
  have h := inB_p (x := x) (n := k + 1) (by omega)
  rw [nI_pred] at h
  exact decide_eq_decide.mpr h.symm
theorem le_in {x : Int32} {k : Nat} (hk : k < 1000) (h1 : ¬ x < 0) (h2 : x ≤ nI k) : inB x (k + 1) = true := by rw [inB_le hk]; exact decide_eq_true ⟨Int32.not_lt.mp h1, h2⟩
theorem le_out1 {x : Int32} {k : Nat} (hk : k < 1000) (h1 : x < 0) : inB x (k + 1) = false := by rw [inB_le hk]; exact decide_eq_false (fun h => Int32.not_lt.mpr h.1 h1)
theorem le_out2 {x : Int32} {k : Nat} (hk : k < 1000) (h1 : ¬ x ≤ nI k) : inB x (k + 1) = false := by rw [inB_le hk]; exact decide_eq_false (fun h => h1 h.2)
theorem wh_in {x : Int32} {k : Nat} (hk : k < 1000) (h : decide ((0 : Int32) ≤ x ∧ x ≤ nI k) = true) : ∃ j, j < k + 1 ∧ x = nI j := inB_of (by rw [inB_le hk]; exact h) (by omega)
def toldL (kd nu gl rn : Nat → Int32) (vs : Nat → VV) (nv j k : Nat) : Int32 :=
  if k = 0 then kd j else if k = 1 then nu j else if k = 2 then rightN (kd j) (nu j) gl rn 12 else sumN (fun v => (vs v).2.2.2.2 j) nv
def aboutL (sa : Nat → Int32) (vs : Nat → VV) (n nv v k : Nat) : Int32 :=
  if k = 0 then (vs v).2.1 else if k = 1 then (vs v).2.2.1 else if k = 2 then (vs v).2.2.2.1 else if k = 3 then sumN (vs v).2.2.2.2 n else if k = 4 then placeV vs nv (vs v)
  else if k = 5 then b2i (decide (0 < leadN sa (vs v).2.2.2.2 8)) else leadN sa (vs v).2.2.2.2 8
def countL (sa rn : Nat → Int32) (vs : Nat → VV) (n nv d k : Nat) : Int32 :=
  if k = 0 then nI d else if k = 1 then nI n else if k = 2 then nI nv else if k = 6 then sumN rn 12 else covL sa vs nv k
