theorem rowN_ne (F : Nat → Int32 → Int32) (wt : Nat → Int32) {u w n j : Nat} (h : u ≠ w) (hj : j < 8) : rowN F wt u n (8 * w + j) = wt (8 * w + j) := if_neg (fun q => h (by omega))
theorem upd_ne {f : Nat → Int32} {k j : Nat} {x : Int32} (h : j ≠ k) : upd f k x j = f j := if_neg h
theorem upd_eq {f : Nat → Int32} {k : Nat} {x : Int32} : upd f k x k = x := if_pos rfl
def bestO (r : Nat → Int32) : Nat → Option Nat
  | 0 => none
  | i + 1 => match bestO r i with
    | none => some i
    | some b => if r b < r i then some i else some b
def optI (o : Option Nat) : Int32 := match o with
  | none => -1
  | some b => nI b
theorem bestO_lt (r : Nat → Int32) : ∀ i b, bestO r i = some b → b < i
  | 0, b, h => by cases h
  | i + 1, b, h => by
    unfold bestO at h
    cases e : bestO r i with
    | none => rw [e] at h; cases h; omega
    | some b2 =>
      rw [e] at h
      have := bestO_lt r i b2 e
      dsimp only at h
      by_cases q : r b2 < r i
      · rw [if_pos q] at h; cases h; omega
      · rw [if_neg q] at h; cases h; omega
theorem bestO_n {r : Nat → Int32} {i : Nat} (h : bestO r i = none) : some i = bestO r (i + 1) := by
  conv => rhs; unfold bestO
  rw [h]
theorem bestO_y {r : Nat → Int32} {i b : Nat} (h : bestO r i = some b) (q : r b < r i) : some i = bestO r (i + 1) := by
  conv => rhs; unfold bestO
  rw [h]; dsimp only; rw [if_pos q]
theorem bestO_k {r : Nat → Int32} {i b : Nat} (h : bestO r i = some b) (q : ¬ r b < r i) : some b = bestO r (i + 1) := by
  conv => rhs; unfold bestO
  rw [h]; dsimp only; rw [if_neg q]
theorem nI_n1 {b : Nat} (h : b < 2 ^ 31) : ¬ nI b = -1 := fun q => by
  have h1 := congrArg Int32.toInt q
  rw [nI_toInt h] at h1
  have h2 : (-1 : Int32).toInt = -1 := by decide
  omega
theorem bestO_i {r : Nat → Int32} {i : Nat} {x : Int32} (h : x = optI (bestO r i)) (c : ¬ x = -1) : ∃ b, bestO r i = some b ∧ x = nI b := by
  cases e : bestO r i with
  | none => rw [e] at h; exact absurd h c
  | some b => rw [e] at h; exact ⟨b, rfl, h⟩
theorem bestO_m {r : Nat → Int32} {i : Nat} {x : Int32} (h : x = optI (bestO r i)) (c : x = -1) (hi : i < 1000) : bestO r i = none := by
  cases e : bestO r i with
  | none => rfl
  | some b =>
    rw [e] at h
    have := bestO_lt r i b e
    exact absurd (h.symm.trans c) (nI_n1 (by omega))
