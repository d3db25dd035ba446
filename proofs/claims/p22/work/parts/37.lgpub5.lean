def twoV (b : Nat → VV) (A B : VV) : Nat → VV := fun z => if z = 1 then B else (if z = 0 then A else b z)
/-- the trials of advise: the trial 0 as it is, the trial t without the sign t - 1 -/
def adV (V : VV) (b : Nat → VV) (n i : Nat) : Nat → VV := fun t => if t = 0 then V else if t ≤ i then setW V (upd V.2.2.2.2 (t - 1) 0) else if t ≤ n then V else b t
theorem adV_0 (V : VV) (b : Nat → VV) (n t : Nat) : cpV (fun _ => V) b (n + 1) t = adV V b n 0 t := by
  unfold cpV adV
  by_cases h0 : t = 0
  · rw [if_pos h0, if_pos (by omega)]
  · rw [if_neg h0, if_neg (show ¬ t ≤ 0 by omega)]
    by_cases h1 : t ≤ n
    · rw [if_pos h1, if_pos (by omega)]
    · rw [if_neg h1, if_neg (by omega)]
theorem adV_at (V : VV) (b : Nat → VV) {n i : Nat} (h : i < n) : adV V b n i (i + 1) = V := by
  unfold adV
  rw [if_neg (Nat.succ_ne_zero i), if_neg (by omega), if_pos (by omega)]
theorem adV_s (V : VV) (b : Nat → VV) {n i : Nat} (h : i < n) (t : Nat) : (if t = i + 1 then setW V (upd V.2.2.2.2 i 0) else adV V b n i t) = adV V b n (i + 1) t := by
  unfold adV
  by_cases h1 : t = i + 1
  · subst h1
    rw [if_pos rfl, if_neg (Nat.succ_ne_zero i), if_pos (Nat.le_refl _), Nat.add_sub_cancel]
  · rw [if_neg h1]
    by_cases h0 : t = 0
    · rw [if_pos h0, if_pos h0]
    · rw [if_neg h0, if_neg h0]
      by_cases h2 : t ≤ i
      · rw [if_pos h2, if_pos (by omega)]
      · rw [if_neg h2, if_neg (show ¬ t ≤ i + 1 by omega)]
