/-! ===== pure words: what the methods compute ===== -/
theorem nm_c {x a : Nat} {as : List Nat} (h : x ≠ a) (k : x ∉ as) : x ∉ a :: as := by
  simp only [List.mem_cons, not_or]
  exact ⟨h, k⟩
/-- a row changed place by place, below n -/
def mapN (F : Nat → Int32 → Int32) (w : Nat → Int32) (n : Nat) : Nat → Int32 := fun j => if j < n then F j (w j) else w j
theorem mapN_0 (F : Nat → Int32 → Int32) (w : Nat → Int32) : mapN F w 0 = w := funext fun j => if_neg (Nat.not_lt_zero j)
theorem mapN_at (F : Nat → Int32 → Int32) (w : Nat → Int32) (n : Nat) : mapN F w n n = w n := if_neg (Nat.lt_irrefl n)
theorem mapN_lt {F : Nat → Int32 → Int32} {w : Nat → Int32} {n j : Nat} (h : j < n) : mapN F w n j = F j (w j) := if_pos h
theorem mapN_s {F : Nat → Int32 → Int32} {w : Nat → Int32} {n : Nat} {x : Int32} (h : x = F n (w n)) : upd (mapN F w n) n x = mapN F w (n + 1) := by
  funext j
  unfold upd mapN
  by_cases h1 : j = n
  · subst h1; simp [h]
  · by_cases h2 : j < n
    · simp [h1, h2, Nat.lt_succ_of_lt h2]
    · have : ¬ j < n + 1 := by omega
      simp [h1, h2, this]
theorem mapN_k {F : Nat → Int32 → Int32} {w : Nat → Int32} {n : Nat} (h : w n = F n (w n)) : mapN F w n = mapN F w (n + 1) := by
  funext j
  unfold mapN
  by_cases h1 : j = n
  · subst h1; simp [← h]
  · by_cases h2 : j < n
    · simp [h2, Nat.lt_succ_of_lt h2]
    · have : ¬ j < n + 1 := by omega
      simp [h2, this]
/-- sums -/
def sumN (w : Nat → Int32) : Nat → Int32
  | 0 => 0
  | n + 1 => sumN w n + w n
theorem sumN_s {w : Nat → Int32} {n : Nat} {x y : Int32} (h : x = sumN w n) (e : y = x + w n) : y = sumN w (n + 1) := by rw [e, h]; rfl
/-- the day as a place in the table; -1 is the day ahead of 0 -/
def dIx (x : Int32) (j : Nat) : Prop := (∃ d : Nat, d < 2 ^ 30 ∧ x = nI d ∧ j = d % 12) ∨ (x = -1 ∧ j = 11)
theorem dIx_n {d : Nat} (h : d < 2 ^ 30) : dIx (nI d) (d % 12) := Or.inl ⟨d, h, rfl, rfl⟩
theorem dIx_p {d : Nat} {x : Int32} (h : d < 2 ^ 30) (hx : x = nI d - 1) : dIx x ((d + 11) % 12) := by
  subst hx
  cases d with
  | zero => exact Or.inr ⟨by decide, by decide⟩
  | succ d => exact Or.inl ⟨d, by omega, nI_pred d, by omega⟩
theorem dIx_lt {x : Int32} {j : Nat} (h : dIx x j) : j < 12 := by
  rcases h with ⟨d, _, _, rfl⟩ | ⟨_, rfl⟩ <;> omega
theorem xor12 {d : Nat} (h : d < 2 ^ 30) : ¬ (nI d ^^^ 12) < 0 := by
  intro q
  have e : (nI d ^^^ 12).toBitVec.msb = true := by
    rw [BitVec.msb_eq_toInt]
    exact decide_eq_true (show (nI d ^^^ 12).toBitVec.toInt < 0 from Int32.lt_iff_toInt_lt.mp q)
  rw [Int32.toBitVec_xor, BitVec.msb_xor] at e
  have e1 : (nI d).toBitVec.msb = false := by
    rw [BitVec.msb_eq_decide, pk_tn (by omega)]
    simp
    omega
  rw [e1] at e
  revert e
  decide
/-- what a sign says -/
def sayB (k n : Int32) (gl rn : Nat → Int32) (d : Nat) : Bool :=
  if k = 0 then decide (n ≤ gl ((d + 11) % 12) - gl (d % 12))
  else if k = 1 then decide (gl (d % 12) < n)
  else if k = 2 then decide (rn ((d + 11) % 12) = 1)
  else if k = 3 then decide (nI d - nI d / 7 * 7 = n - n / 7 * 7)
  else if k = 4 then decide (rn ((d + 11) % 12) = 0 ∧ gl (d % 12) < gl ((d + 11) % 12))
  else true
def rightN (k n : Int32) (gl rn : Nat → Int32) : Nat → Int32 := sumN (fun d => b2i (sayB k n gl rn d == decide (rn d = 1)))
/-- sums of weights by what is said -/
def leadN (sa wt : Nat → Int32) : Nat → Int32 := sumN (fun j => sa j * wt j)
def learn1 (t sa w : Int32) : Int32 := if sa = t then (if 100 < w + 1 then 100 else w + 1) else if sa = -t then w - (w + 3) / 4 else w
def sell1 (row co : Int32) : Int32 := if row < 1 then (if co ≤ 0 then co else co - 1) else co + (if 5 < row then 5 else row)
theorem bool1 {x : Int32} (h : ∃ b, x = b2i b) (hx : ¬ x = 0) : x = 1 := by
  obtain ⟨b, rfl⟩ := h
  cases b
  · exact absurd rfl hx
  · rfl
theorem ti_ne {x j : Int32} (h : ¬ x = j) : x.toInt ≠ j.toInt := fun q => h (Int32.toInt_inj.mp q)
theorem dIx_t {t : Nat} (h : t < 12) : dIx (nI t) t := Or.inl ⟨t, by omega, rfl, (Nat.mod_eq_of_lt h).symm⟩
theorem b2i_d (b : Bool) : b2i (decide (b2i b = 1)) = b2i b := by cases b <;> rfl
theorem say0 {k n : Int32} {gl rn : Nat → Int32} {d : Nat} (h : k = 0) : sayB k n gl rn d = decide (n ≤ gl ((d + 11) % 12) - gl (d % 12)) := by subst h; rfl
theorem say1 {k n : Int32} {gl rn : Nat → Int32} {d : Nat} (h : k = 1) : sayB k n gl rn d = decide (gl (d % 12) < n) := by subst h; rfl
theorem say2 {k n : Int32} {gl rn : Nat → Int32} {d : Nat} (h : k = 2) : sayB k n gl rn d = decide (rn ((d + 11) % 12) = 1) := by subst h; rfl
theorem say3 {k n : Int32} {gl rn : Nat → Int32} {d : Nat} (h : k = 3) : sayB k n gl rn d = decide (nI d - nI d / 7 * 7 = n - n / 7 * 7) := by subst h; rfl
theorem say4 {k n : Int32} {gl rn : Nat → Int32} {d : Nat} (h : k = 4) : sayB k n gl rn d = decide (rn ((d + 11) % 12) = 0 ∧ gl (d % 12) < gl ((d + 11) % 12)) := by subst h; rfl
theorem say5 {k n : Int32} {gl rn : Nat → Int32} {d : Nat} (h0 : ¬ k = 0) (h1 : ¬ k = 1) (h2 : ¬ k = 2) (h3 : ¬ k = 3) (h4 : ¬ k = 4) : sayB k n gl rn d = true := by
  unfold sayB
  rw [if_neg h0, if_neg h1, if_neg h2, if_neg h3, if_neg h4]
theorem bt {b : Bool} {P : Prop} [Decidable P] (e : b = decide P) (h : P) : (1 : Int32) = b2i b := by rw [e, decide_eq_true h]; rfl
theorem bf {b : Bool} {P : Prop} [Decidable P] (e : b = decide P) (h : ¬ P) : (0 : Int32) = b2i b := by rw [e, decide_eq_false h]; rfl
theorem sumN_z {w : Nat → Int32} {n : Nat} {x : Int32} (h : x = sumN w n) (e : w n = 0) : x = sumN w (n + 1) := by
  rw [h]
  show sumN w n = sumN w n + w n
  rw [e, Int32.add_zero]
theorem drT {s : Bool} {r : Int32} (hr : ∃ b, r = b2i b) (h : b2i s = r) : b2i (s == decide (r = 1)) = 1 := by
  obtain ⟨b, rfl⟩ := hr
  cases s <;> cases b <;> first | rfl | exact absurd h (by decide)
theorem drF {s : Bool} {r : Int32} (hr : ∃ b, r = b2i b) (h : ¬ b2i s = r) : b2i (s == decide (r = 1)) = 0 := by
  obtain ⟨b, rfl⟩ := hr
  cases s <;> cases b <;> first | rfl | exact absurd rfl h
def aheadB (p1 c1 n1 p2 c2 n2 : Int32) : Bool := if p1 = p2 then (if c1 = c2 then decide (n1 < n2) else decide (c2 < c1)) else decide (p2 < p1)
theorem ah1 {p1 c1 n1 p2 c2 n2 : Int32} (h : ¬ p1 = p2) : aheadB p1 c1 n1 p2 c2 n2 = decide (p2 < p1) := if_neg h
theorem ah2 {p1 c1 n1 p2 c2 n2 : Int32} (h : p1 = p2) (k : ¬ c1 = c2) : aheadB p1 c1 n1 p2 c2 n2 = decide (c2 < c1) := by unfold aheadB; rw [if_pos h, if_neg k]
theorem ah3 {p1 c1 n1 p2 c2 n2 : Int32} (h : p1 = p2) (k : c1 = c2) : aheadB p1 c1 n1 p2 c2 n2 = decide (n1 < n2) := by unfold aheadB; rw [if_pos h, if_pos k]
/-- is the day a hit: what the lead is, and whether it rains -/
def hitB (lead : Int32) (rb : Bool) : Bool := decide (0 < lead) == rb
def truth (rb : Bool) : Int32 := if rb then 1 else -1
theorem mapN_8 {F : Nat → Int32 → Int32} {w : Nat → Int32} {n i : Nat} (h : n ≤ i) (h2 : i ≤ n) : mapN F w i = mapN F w n := by rw [Nat.le_antisymm h2 h]
