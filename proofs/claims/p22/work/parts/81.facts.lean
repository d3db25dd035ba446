/-! ===== facts: places, the best sign, sums, a mean ===== -/
def pO (o : OB) (v : Nat) : Nat := (o.vs v).2.1.toNatClampNeg
def cO (o : OB) (v : Nat) : Nat := (o.vs v).2.2.1.toNatClampNeg
def rO (o : OB) (v : Nat) : Nat := (o.vs v).2.2.2.1.toNatClampNeg
def wO (o : OB) (v j : Nat) : Nat := ((o.vs v).2.2.2.2 j).toNatClampNeg
theorem OkO.pn {M : Nat} {o : OB} (h : OkO M o) (hM : M < 2 ^ 29) {v : Nat} (hv : v < 6) : (o.vs v).1 = nI v ∧ (o.vs v).2.1 = nI (pO o v) ∧ pO o v ≤ M ∧ (o.vs v).2.2.1 = nI (cO o v) ∧ cO o v ≤ M ∧ (o.vs v).2.2.2.1 = nI (rO o v) ∧ rO o v ≤ pO o v := by
  obtain ⟨h1, p, c, r, a1, a2, a3, e1, e2, e3, e4⟩ := h.hV v hv
  have ep : pO o v = p := by unfold pO; rw [e1]; exact nI_clamp (by omega)
  have ec : cO o v = c := by unfold cO; rw [e2]; exact nI_clamp (by omega)
  have er : rO o v = r := by unfold rO; rw [e3]; exact nI_clamp (by omega)
  rw [ep, ec, er]
  exact ⟨h1, e1, a1, e2, a2, e3, a3⟩
theorem OkO.wn {M : Nat} {o : OB} (h : OkO M o) {v j : Nat} (hv : v < 6) (hj : j < 8) : (o.vs v).2.2.2.2 j = nI (wO o v j) ∧ wO o v j ≤ 100 := by
  obtain ⟨h1, p, c, r, a1, a2, a3, e1, e2, e3, e4⟩ := h.hV v hv
  obtain ⟨w, hw, ew⟩ := e4 j hj
  have e9 : wO o v j = w := by unfold wO; rw [ew]; exact nI_clamp (by omega)
  rw [e9]
  exact ⟨ew, hw⟩
abbrev aH (o : OB) (u v : Nat) : Bool := aheadV (o.vs u) (o.vs v)
theorem ah_iff {M : Nat} {o : OB} (h : OkO M o) (hM : M < 2 ^ 29) {u v : Nat} (hu : u < 6) (hv : v < 6) : aH o u v = true ↔ (pO o v < pO o u ∨ (pO o u = pO o v ∧ (cO o v < cO o u ∨ (cO o u = cO o v ∧ u < v)))) := by
  obtain ⟨n1, p1, b1, c1, d1, -⟩ := h.pn hM hu
  obtain ⟨n2, p2, b2, c2, d2, -⟩ := h.pn hM hv
  unfold aH aheadV
  rw [n1, p1, c1, n2, p2, c2]
  by_cases e1 : pO o u = pO o v
  · by_cases e2 : cO o u = cO o v
    · by_cases e3 : u < v
      · rw [ahx3 (by rw [e1]) (by rw [e2]) (nI_lt e3 (by omega))]; simp; omega
      · rw [ahy3 (by rw [e1]) (by rw [e2]) (nI_nlt (by omega) (by omega))]; simp; omega
    · have q1 : ¬ nI (cO o u) = nI (cO o v) := fun z => e2 ((nI_eq (by omega) (by omega)).mp z)
      by_cases e3 : cO o v < cO o u
      · rw [ahx2 (by rw [e1]) (nI_lt e3 (by omega))]; simp; omega
      · rw [ahy2 (by rw [e1]) q1 (nI_nlt (by omega) (by omega))]; simp; omega
  · have q1 : ¬ nI (pO o u) = nI (pO o v) := fun z => e1 ((nI_eq (by omega) (by omega)).mp z)
    by_cases e3 : pO o v < pO o u
    · rw [ahx1 (nI_lt e3 (by omega))]; simp; omega
    · rw [ahy1 q1 (nI_nlt (by omega) (by omega))]; simp; omega
/-- how many of the first n are ahead -/
def cntP (o : OB) (v : Nat) : Nat → Nat
  | 0 => 0
  | n + 1 => cntP o v n + (if aH o n v then 1 else 0)
theorem cntP_sum (o : OB) (v : Nat) : ∀ n, sumN (fun u => b2i (aheadV (o.vs u) (o.vs v))) n = nI (cntP o v n)
  | 0 => rfl
  | n + 1 => by
    show sumN (fun u => b2i (aheadV (o.vs u) (o.vs v))) n + b2i (aH o n v) = nI (cntP o v n + (if aH o n v then 1 else 0))
    rw [cntP_sum o v n]
    exact pts_n
theorem cntP_le (o : OB) (v : Nat) : ∀ n, cntP o v n ≤ n
  | 0 => Nat.le_refl _
  | n + 1 => by
    have := cntP_le o v n
    show cntP o v n + (if aH o n v then 1 else 0) ≤ n + 1
    split <;> omega
theorem cntP_lt {o : OB} {v : Nat} (h : aH o v v = false) : ∀ n, v < n → cntP o v n < n
  | 0, hv => absurd hv (Nat.not_lt_zero v)
  | n + 1, hv => by
    show cntP o v n + (if aH o n v then 1 else 0) < n + 1
    by_cases e : v = n
    · subst e
      rw [h]
      have := cntP_le o v v
      simp; omega
    · have := cntP_lt h n (by omega)
      split <;> omega
theorem cntP_mono {o : OB} {u v : Nat} : ∀ n, (∀ w, w < n → aH o w u = true → aH o w v = true) → cntP o u n ≤ cntP o v n
  | 0, _ => Nat.le_refl _
  | n + 1, h => by
    have h1 := cntP_mono n (fun w hw => h w (by omega))
    have h2 := h n (by omega)
    show cntP o u n + (if aH o n u then 1 else 0) ≤ cntP o v n + (if aH o n v then 1 else 0)
    cases e : aH o n u
    · simp; omega
    · rw [h2 e]; simp; omega
theorem cntP_more {o : OB} {u v : Nat} (h1 : aH o u u = false) (h2 : aH o u v = true) : ∀ n, u < n → (∀ w, w < n → aH o w u = true → aH o w v = true) → cntP o u n + 1 ≤ cntP o v n
  | 0, hu, _ => absurd hu (Nat.not_lt_zero u)
  | n + 1, hu, h => by
    show cntP o u n + (if aH o n u then 1 else 0) + 1 ≤ cntP o v n + (if aH o n v then 1 else 0)
    by_cases e : u = n
    · subst e
      rw [h1, h2]
      have := cntP_mono (o := o) (u := u) (v := v) u (fun w hw => h w (by omega))
      simp; omega
    · have h3 := cntP_more h1 h2 n (by omega) (fun w hw => h w (by omega))
      have h4 := h n (by omega)
      cases e2 : aH o n u
      · simp; omega
      · rw [h4 e2]; simp; omega
def plO (o : OB) (v : Nat) : Nat := 1 + cntP o v o.nv
theorem place_pl (o : OB) (v : Nat) : placeV o.vs o.nv (o.vs v) = nI (plO o v) := by
  unfold placeV plO
  rw [cntP_sum]
  exact nI_add 1 _
section PLS
variable {M : Nat} {o : OB}
theorem ah_irr (h : OkO M o) (hM : M < 2 ^ 29) {u : Nat} (hu : u < 6) : aH o u u = false := by
  cases e : aH o u u
  · rfl
  · have := (ah_iff h hM hu hu).mp e
    omega
theorem pl_lt (h : OkO M o) (hM : M < 2 ^ 29) {u v : Nat} (hu : u < o.nv) (hv : v < o.nv) (hA : aH o u v = true) : plO o u < plO o v := by
  have h6 := h.hnv
  have h1 := cntP_more (ah_irr h hM (u := u) (by omega)) hA o.nv hu (fun w hw hwu => by
    rw [ah_iff h hM (by omega) (by omega)] at hwu hA ⊢
    omega)
  unfold plO
  omega
theorem pl_ah (h : OkO M o) (hM : M < 2 ^ 29) {u v : Nat} (hu : u < o.nv) (hv : v < o.nv) (hp : plO o u < plO o v) : aH o u v = true := by
  have h6 := h.hnv
  by_cases e : u = v
  · subst e; omega
  · cases e2 : aH o u v
    · have h3 : aH o v u = true := by
        have h4 : ¬ aH o u v = true := by rw [e2]; simp
        rw [ah_iff h hM (by omega) (by omega)] at h4 ⊢
        omega
      have := pl_lt h hM hv hu h3
      omega
    · rfl
theorem plO_inj (h : OkO M o) (hM : M < 2 ^ 29) {u v : Nat} (hu : u < o.nv) (hv : v < o.nv) (hp : plO o u = plO o v) : u = v := by
  have h6 := h.hnv
  by_cases e : u = v
  · exact e
  · exfalso
    by_cases e2 : aH o u v = true
    · have := pl_lt h hM hu hv e2
      omega
    · have h3 : aH o v u = true := by
        rw [ah_iff h hM (by omega) (by omega)] at e2 ⊢
        omega
      have := pl_lt h hM hv hu h3
      omega
theorem pl_rng (h : OkO M o) (hM : M < 2 ^ 29) {v : Nat} (hv : v < o.nv) : 1 ≤ plO o v ∧ plO o v ≤ o.nv := by
  have h6 := h.hnv
  have := cntP_lt (ah_irr h hM (u := v) (by omega)) o.nv hv
  unfold plO
  omega
/-- what is apart below n reaches all below n -/
theorem php : ∀ (n : Nat) (p : Nat → Nat), (∀ i, i < n → p i < n) → (∀ i j, i < n → j < n → p i = p j → i = j) → ∀ q, q < n → ∃ i, i < n ∧ p i = q
  | 0, _, _, _, q, hq => absurd hq (Nat.not_lt_zero q)
  | n + 1, p, hl, hi, q, hq => by
    have ih := php n (fun i => if p i = n then p n else p i) (fun i h => by
      have a1 := hl i (by omega)
      have a2 := hl n (by omega)
      by_cases e : p i = n
      · simp only [if_pos e]
        have a3 : p n ≠ n := fun z => by
          have := hi i n (by omega) (by omega) (e.trans z.symm)
          omega
        omega
      · simp only [if_neg e]; omega) (fun i j h1 h2 h3 => by
      by_cases e : p i = n
      · by_cases d : p j = n
        · exact hi i j (by omega) (by omega) (e.trans d.symm)
        · simp only [if_pos e, if_neg d] at h3
          have := hi n j (by omega) (by omega) h3
          omega
      · by_cases d : p j = n
        · simp only [if_neg e, if_pos d] at h3
          have := hi i n (by omega) (by omega) h3
          omega
        · simp only [if_neg e, if_neg d] at h3
          exact hi i j (by omega) (by omega) h3)
    by_cases hx : ∃ i, i < n + 1 ∧ p i = n
    · obtain ⟨x, hx1, hx2⟩ := hx
      by_cases e : q = n
      · exact ⟨x, hx1, hx2.trans e.symm⟩
      · obtain ⟨i, h1, h2⟩ := ih q (by omega)
        by_cases d : p i = n
        · simp only [if_pos d] at h2; exact ⟨n, by omega, h2⟩
        · simp only [if_neg d] at h2; exact ⟨i, by omega, h2⟩
    · exfalso
      have hn : p n < n := by
        have a1 := hl n (by omega)
        have a2 : p n ≠ n := fun z => hx ⟨n, by omega, z⟩
        omega
      obtain ⟨i, h1, h2⟩ := ih (p n) hn
      by_cases d : p i = n
      · exact hx ⟨i, by omega, d⟩
      · simp only [if_neg d] at h2
        have := hi i n (by omega) (by omega) h2
        omega
theorem pl_sur (h : OkO M o) (hM : M < 2 ^ 29) {k : Nat} (h1 : 1 ≤ k) (hk : k ≤ o.nv) : ∃ v, v < o.nv ∧ plO o v = k := by
  obtain ⟨v, hv, e⟩ := php o.nv (fun i => plO o i - 1) (fun i hi => by have := pl_rng h hM hi; show plO o i - 1 < o.nv; omega) (fun i j hi hj e => by
    have a1 := pl_rng h hM hi
    have a2 := pl_rng h hM hj
    have e : plO o i - 1 = plO o j - 1 := e
    exact plO_inj h hM hi hj (by omega)) (k - 1) (by omega)
  have a1 := pl_rng h hM hv
  have e : plO o v - 1 = k - 1 := e
  exact ⟨v, hv, by omega⟩
theorem at_pl (h : OkO M o) (hM : M < 2 ^ 29) {k : Nat} (h1 : 1 ≤ k) (hk : k ≤ o.nv) {r : Int32} (hr : AtR o (nI k) r) : ∃ v, v < o.nv ∧ r = nI v ∧ plO o v = k := by
  have h6 := h.hnv
  obtain ⟨v, hv, e1, e2⟩ := hr
  rw [place_pl] at e2
  have a1 := pl_rng h hM hv
  exact ⟨v, hv, e1, (nI_eq (by omega) (by omega)).mp e2⟩
theorem at_ex (h : OkO M o) (hM : M < 2 ^ 29) {k : Nat} (h1 : 1 ≤ k) (hk : k ≤ o.nv) : ∃ v, v < o.nv ∧ placeV o.vs o.nv (o.vs v) = nI k := by
  obtain ⟨v, hv, e⟩ := pl_sur h hM h1 hk
  exact ⟨v, hv, by rw [place_pl, e]⟩
end PLS
/-! ===== the places as bits ===== -/
def bitP (o : OB) : Nat → Nat
  | 0 => 0
  | v + 1 => bitP o v ||| 2 ^ plO o v
theorem or_n : ∀ a, a < 128 → ∀ p, p < 7 → nI a ||| ((1 : Int32) <<< (nI p &&& 31)) = nI (a ||| 2 ^ p) := by decide +kernel
theorem sh_n : ∀ n, n < 7 → ((2 : Int32) <<< (nI n &&& 31)) - 2 = nI (2 ^ (n + 1) - 2) := by decide +kernel
theorem bit_n : ∀ n, n < 7 → ∀ i, i < 8 → (2 ^ (n + 1) - 2).testBit i = decide (1 ≤ i ∧ i ≤ n) := by decide +kernel
theorem bitP_lt {o : OB} : ∀ v, (∀ u, u < v → plO o u < 7) → bitP o v < 128
  | 0, _ => by show (0 : Nat) < 128; decide
  | v + 1, h => by
    have h1 := bitP_lt v (fun u hu => h u (by omega))
    have h2 := h v (by omega)
    have h3 : 2 ^ plO o v < 2 ^ 7 := Nat.pow_lt_pow_right (by decide) h2
    exact Nat.or_lt_two_pow (n := 7) h1 h3
theorem bitP_t {o : OB} : ∀ v i, (bitP o v).testBit i = true ↔ ∃ u, u < v ∧ plO o u = i
  | 0, i => by
    show (0 : Nat).testBit i = true ↔ _
    rw [Nat.zero_testBit]
    simp
  | v + 1, i => by
    show (bitP o v ||| 2 ^ plO o v).testBit i = true ↔ _
    rw [Nat.testBit_or, Bool.or_eq_true, bitP_t v i, Nat.testBit_two_pow, decide_eq_true_eq]
    constructor
    · rintro (⟨u, h1, h2⟩ | h)
      · exact ⟨u, by omega, h2⟩
      · exact ⟨v, by omega, h⟩
    · rintro ⟨u, h1, h2⟩
      by_cases e : u = v
      · subst e; exact Or.inr h2
      · exact Or.inl ⟨u, by omega, h2⟩
theorem bitP_all {M : Nat} {o : OB} (h : OkO M o) (hM : M < 2 ^ 29) : bitP o o.nv = 2 ^ (o.nv + 1) - 2 := by
  have h6 := h.hnv
  have hlt := bitP_lt (o := o) o.nv (fun u hu => by have := pl_rng h hM hu; omega)
  apply Nat.eq_of_testBit_eq
  intro i
  by_cases hi : i < 8
  · rw [bit_n o.nv (by omega) i hi]
    by_cases e : 1 ≤ i ∧ i ≤ o.nv
    · rw [decide_eq_true e, bitP_t]
      exact pl_sur h hM e.1 e.2
    · rw [decide_eq_false e]
      cases q : (bitP o o.nv).testBit i
      · rfl
      · obtain ⟨u, h1, h2⟩ := (bitP_t o.nv i).mp q
        have := pl_rng h hM h1
        exact absurd ⟨by omega, by omega⟩ e
  · have h8 : (2 : Nat) ^ 8 ≤ 2 ^ i := Nat.pow_le_pow_right (by decide) (by omega)
    rw [Nat.testBit_lt_two_pow (by omega), Nat.testBit_lt_two_pow (by
      have : (2 : Nat) ^ (o.nv + 1) ≤ 2 ^ 7 := Nat.pow_le_pow_right (by decide) (by omega)
      omega)]
/-! ===== the best sign ===== -/
def cntB (f : Nat → Bool) : Nat → Nat
  | 0 => 0
  | n + 1 => cntB f n + (if f n then 1 else 0)
theorem cntB_sum (f : Nat → Bool) : ∀ n, sumN (fun u => b2i (f u)) n = nI (cntB f n)
  | 0 => rfl
  | n + 1 => by
    show sumN (fun u => b2i (f u)) n + b2i (f n) = nI (cntB f n + (if f n then 1 else 0))
    rw [cntB_sum f n]
    exact pts_n
theorem cntB_le (f : Nat → Bool) : ∀ n, cntB f n ≤ n
  | 0 => Nat.le_refl _
  | n + 1 => by
    have := cntB_le f n
    show cntB f n + (if f n then 1 else 0) ≤ n + 1
    split <;> omega
def rtO (o : OB) (j : Nat) : Nat := cntB (fun d => sayB (o.kd j) (o.nu j) o.gl o.rn d == decide (o.rn d = 1)) 12
theorem right_n (o : OB) (j : Nat) : rightO o j = nI (rtO o j) := cntB_sum _ 12
theorem rt_le (o : OB) (j : Nat) : rtO o j ≤ 12 := cntB_le _ 12
/-- i is the first of the greatest between k and n -/
def Fst (o : OB) (k n i : Nat) : Prop := k ≤ i ∧ i < n ∧ (∀ j, k ≤ j → j < n → rtO o j ≤ rtO o i) ∧ ∀ j, k ≤ j → j < i → rtO o j < rtO o i
theorem Fst.uniq {o : OB} {k n i j : Nat} (h : Fst o k n i) (h2 : Fst o k n j) : i = j := by
  obtain ⟨a1, a2, a3, a4⟩ := h
  obtain ⟨b1, b2, b3, b4⟩ := h2
  rcases Nat.lt_trichotomy i j with e | e | e
  · have := b4 i a1 e; have := a3 j b1 b2; omega
  · exact e
  · have := a4 j b1 e; have := b3 i a1 a2; omega
theorem bestL_n (o : OB) : ∀ n, (n = 0 ∧ bestL (rightO o) n = (-1, -1)) ∨ ∃ i, Fst o 0 n i ∧ bestL (rightO o) n = (nI (rtO o i), nI i)
  | 0 => Or.inl ⟨rfl, rfl⟩
  | n + 1 => by
    right
    show ∃ i, Fst o 0 (n + 1) i ∧ (if (bestL (rightO o) n).1 < rightO o n then (rightO o n, nI n) else bestL (rightO o) n) = (nI (rtO o i), nI i)
    have hr := rt_le o n
    rcases bestL_n o n with ⟨rfl, e⟩ | ⟨i, ⟨h1, h2, h3, h4⟩, e⟩
    · rw [e, right_n, if_pos (show (-1 : Int32) < nI (rtO o 0) from by
        rw [Int32.lt_iff_toInt_lt, nI_toInt (by omega), show (-1 : Int32).toInt = -1 from by decide]; omega)]
      exact ⟨0, ⟨Nat.le_refl _, by omega, fun j _ hj => by rw [show j = 0 by omega]; exact Nat.le_refl _, fun j _ hj => absurd hj (Nat.not_lt_zero j)⟩, rfl⟩
    · have hri := rt_le o i
      rw [e, right_n]
      by_cases c : rtO o i < rtO o n
      · rw [if_pos (nI_lt c (by omega))]
        exact ⟨n, ⟨Nat.zero_le _, by omega, fun j _ hj => by
          by_cases q : j = n
          · rw [q]; exact Nat.le_refl _
          · have := h3 j (Nat.zero_le _) (by omega); omega, fun j _ hj => by have := h3 j (Nat.zero_le _) hj; omega⟩, rfl⟩
      · rw [if_neg (nI_nlt (by omega) (by omega))]
        exact ⟨i, ⟨h1, by omega, fun j _ hj => by
          by_cases q : j = n
          · rw [q]; omega
          · exact h3 j (Nat.zero_le _) (by omega), h4⟩, rfl⟩
theorem bestO_n (o : OB) : (o.n = 0 ∧ bestO o = -1) ∨ ∃ i, Fst o 0 o.n i ∧ bestO o = nI i := by
  unfold bestO
  rcases bestL_n o o.n with ⟨h, e⟩ | ⟨i, h, e⟩
  · exact Or.inl ⟨h, by rw [e]⟩
  · exact Or.inr ⟨i, h, by rw [e]⟩
/-! ===== sums ===== -/
theorem sumN_add {a b : Nat → Int32} : ∀ n, sumN (fun v => a v + b v) n = sumN a n + sumN b n
  | 0 => rfl
  | n + 1 => by
    show sumN (fun v => a v + b v) n + (a n + b n) = (sumN a n + a n) + (sumN b n + b n)
    rw [sumN_add n, Int32.add_assoc, Int32.add_assoc, ← Int32.add_assoc (sumN b n), Int32.add_comm (sumN b n) (a n), Int32.add_assoc]
theorem hitK_1 (o : OB) : hitK o 1 = hitsO o := Int32.zero_add _
/-! ===== a mean ===== -/
theorem nan_dec {b : UInt64} (h : isNaN64 b = true) : FP.Core.decode FP.Core.b64 b.toNat = .nan := by
  rw [isNaN64_iff] at h
  have e : b.toNat &&& 0x7fffffffffffffff = b.toNat % 2 ^ 63 := Nat.and_two_pow_sub_one_eq_mod b.toNat 63
  rw [e] at h
  have ht : FP.Core.b64.tails = 4503599627370496 := by decide
  have he : FP.Core.b64.exps = 2048 := by decide
  have hE : FP.Core.fieldE FP.Core.b64 b.toNat = FP.Core.b64.exps - 1 := by
    unfold FP.Core.fieldE
    rw [ht, he]
    omega
  have hT : ¬ FP.Core.fieldT FP.Core.b64 b.toNat = 0 := by
    unfold FP.Core.fieldT
    rw [ht]
    omega
  unfold FP.Core.decode
  rw [if_pos hE, if_neg hT]
theorem al_or {x y : UInt64} (h : alike64 x y = true) : x = y ∨ (isNaN64 x = true ∧ isNaN64 y = true) := by
  unfold alike64 at h
  rcases Bool.or_eq_true _ _ |>.mp h with h1 | h1
  · exact Or.inl (of_decide_eq_true h1)
  · exact Or.inr (Bool.and_eq_true _ _ |>.mp h1)
theorem mean_ok (x : Int32) {n : Nat} (h0 : n ≠ 0) (h6 : n ≤ 6) : isNaN64 (FP.ddiv (FP.i2d x) (FP.i2d (nI n))) = false ∧ FP.dcmp (FP.ddiv (FP.i2d x) (FP.i2d (nI n))) (FP.ddiv (FP.i2d x) (FP.i2d (nI n))) = some .eq := by
  have h1 : FP.Core.dIsNaN (FP.Core.ddiv (FP.i2d x) (FP.i2d (nI n))) = false := FP.Core.ddiv_out ((FP.Core.notNaN_iff _).mpr (FP.Core.i2d_fin x).ne_nan) (FP.Core.i2d_fin (nI n)) (fun z => FP.Core.i2d_ne_zero (v := nI n) (nI_ne0 (by omega) (by omega)) ((FP.Core.zero_bits2 _).mp z))
  have h2 := (FP.Core.notNaN_iff _).mp h1
  refine ⟨?_, FP.Core.dcmp_self h2⟩
  cases e : isNaN64 (FP.ddiv (FP.i2d x) (FP.i2d (nI n)))
  · rfl
  · exact absurd (nan_dec e) h2
theorem mean_two {x : Int32} {n : Nat} (h6 : n ≤ 6) {r b : UInt64} (h1 : meanD x n r) (h2 : meanD x n b) : Op.cmpValue (FP.dcmp r b) .l = 0 := by
  rcases h1 with ⟨h0, rfl⟩ | ⟨h0, a1⟩
  · rcases h2 with ⟨_, rfl⟩ | ⟨h3, _⟩
    · decide +kernel
    · exact absurd h0 h3
  · rcases h2 with ⟨h3, _⟩ | ⟨_, a2⟩
    · exact absurd h3 h0
    · obtain ⟨n1, n2⟩ := mean_ok x h0 h6
      rcases al_or a1 with e1 | ⟨_, z⟩
      · rcases al_or a2 with e2 | ⟨_, z⟩
        · rw [e1, e2, n2]; rfl
        · exact (i_1 z n1).elim
      · exact (i_1 z n1).elim
