theorem dy_in {x : Int32} {k : Nat} (hk : k < 1000) (h : decide ((1 : Int32) ≤ x ∧ x ≤ nI k) = true) : ∃ j, 1 ≤ j ∧ j ≤ k ∧ x = nI j := by
  have h1 := of_decide_eq_true h
  have h2 : (0 : Int32) ≤ x := by
    rw [Int32.le_iff_toInt_le] at *
    have e1 : (1 : Int32).toInt = 1 := by decide
    have e0 : (0 : Int32).toInt = 0 := by decide
    omega
  obtain ⟨j, hj, rfl⟩ := wh_in hk (decide_eq_true ⟨h2, h1.2⟩)
  refine ⟨j, ?_, by omega, rfl⟩
  have := (nI_leI (a := 1) (b := j) (by omega) (by omega)).mp h1.1
  exact this
theorem FrP.rf {f : Nat → va_E} {lo sy cap : Nat} {ad aw : Nat → Nat} : FrP f f lo sy cap ad aw := fun _ _ _ _ => rfl
theorem FrP.day {f f1 f2 : Nat → va_E} {lo sy cap : Nat} {ad aw : Nat → Nat} (h : FrP f f1 lo sy cap ad aw) (h2 : FrL f1 f2 sy cap ad aw) : FrP f f2 lo sy cap ad aw := fun x a b c => (h2 x b c).trans (h x a b c)
theorem FrP.put {f f1 : Nat → va_E} {lo sy cap : Nat} {ad aw : Nat → Nat} (h : FrP f f1 lo sy cap ad aw) {e : va_E} : FrP f (va_up f1 lo e) lo sy cap ad aw := fun x a b c => (va_up_ne _ _ a).trans (h x a b c)
theorem FrP.lo {f f1 f2 : Nat → va_E} {lo sy cap : Nat} {ad aw : Nat → Nat} (h : FrP f f1 lo sy cap ad aw) (h2 : Fr f1 f2 [lo]) : FrP f f2 lo sy cap ad aw := fun x a b c => (h2 x (nm_c a List.not_mem_nil)).trans (h x a b c)
theorem FrP.sy {f f1 f2 : Nat → va_E} {lo sy cap : Nat} {ad aw : Nat → Nat} (h : FrP f f1 lo sy cap ad aw) (h2 : Fr f1 f2 [sy]) : FrP f f2 lo sy cap ad aw := fun x a b c => (h2 x (nm_c b List.not_mem_nil)).trans (h x a b c)
theorem FrP.add {f f1 f2 : Nat → va_E} {lo sy cap : Nat} {ad aw : Nat → Nat} (h : FrP f f1 lo sy cap ad aw) {n : Nat} (hn : n < cap) (h2 : Fr f1 f2 [lo, ad n, aw n]) : FrP f f2 lo sy cap ad aw := fun x a b c => (h2 x (nm_c a (nm_c (c n hn).1 (nm_c (c n hn).2 List.not_mem_nil)))).trans (h x a b c)
theorem FrP.w {f f1 f2 : Nat → va_E} {lo sy cap : Nat} {ad aw : Nat → Nat} (h : FrP f f1 lo sy cap ad aw) {n : Nat} (hn : n < cap) (h2 : Fr f1 f2 [aw n]) : FrP f f2 lo sy cap ad aw := fun x a b c => (h2 x (nm_c (c n hn).2 List.not_mem_nil)).trans (h x a b c)
theorem FrP.get {f f1 : Nat → va_E} {lo sy cap : Nat} {ad aw : Nat → Nat} (h : FrP f f1 lo sy cap ad aw) {x : Nat} {e : va_E} (hf : f x = e) (h0 : x ≠ lo) (h1 : x ≠ sy) (hx : Off cap ad aw x) : f1 x = e := (h x h0 h1 hx).trans hf
/-- the main row while the trials go on -/
theorem Vils.frP {g : GG} {L : List Nat} {f f2 : Nat → va_E} {c2 : Nat} {ad aw : Nat → Nat} {vs : Nat → VV} (h : Vils g L f c2 ad aw vs) {lo sy cap n : Nat} {tad taw : Nat → Nat} {fs : List Value} (hF : FrP f f2 lo sy cap tad taw) (hlo : f lo = eO n fs) (hn : n ≠ 2) {k : Nat} {w : Nat → Int32} (hsy : f sy = eI g k w) (hs : ∀ v, v < c2 → sy ≠ aw v) (hX : ∀ v, v < c2 → Off cap tad taw (ad v) ∧ Off cap tad taw (aw v)) : Vils g L f2 c2 ad aw vs := fun v hv => by
  obtain ⟨a1, a2, a3, a4⟩ := h v hv
  exact ⟨a1, (hF _ (ne_e a2 hlo (by simp [hn.symm])) (ne_e a2 hsy (by simp)) (hX v hv).1).trans a2, a3, (hF _ (ne_e a4 hlo (by simp)) (hs v hv).symm (hX v hv).2).trans a4⟩
theorem Sgs.frP {g : GG} {L : List Nat} {f f2 : Nat → va_E} {n ed : Nat} {so : Nat → Nat} {el : Nat → Option Nat} {kd nu : Nat → Int32} (h : Sgs g L f n ed so el kd nu) {lo sy cap m k : Nat} {tad taw : Nat → Nat} {tvs : Nat → VV} {fs : List Value} {w : Nat → Int32} (hF : FrP f f2 lo sy cap tad taw) (hlo : f lo = eO m fs) (hm : m ≠ 1) (hsy : f sy = eI g k w) (hT : Vils g L f cap tad taw tvs) : Sgs g L f2 n ed so el kd nu :=
  h.keep (fun x fs hx => hF x (ne_e hx hlo (by simp [hm.symm])) (ne_e hx hsy (by simp)) (Off.of hT hx (by simp) (by simp))) (fun x w hx => hF x (ne_e hx hlo (by simp)) (ne_e hx hsy (by simp)) (Off.of hT hx (by simp) (by simp)))
def cpV (a b : Nat → VV) (n : Nat) : Nat → VV := fun u => if u < n then a u else b u
theorem cpV_0 (a b : Nat → VV) : cpV a b 0 = b := funext fun j => if_neg (Nat.not_lt_zero j)
theorem cpV_s (a b : Nat → VV) (n : Nat) : (fun u => if u = n then a n else cpV a b n u) = cpV a b (n + 1) := by
  funext j
  unfold cpV
  by_cases h1 : j = n
  · subst h1; simp
  · by_cases h2 : j < n
    · simp [h1, h2, Nat.lt_succ_of_lt h2]
    · have : ¬ j < n + 1 := by omega
      simp [h1, h2, this]
/-- of two villages in a row: when the first is ahead -/
def ahT (kd nu gl rn : Nat → Int32) (n d : Nat) (X : LX) (i : Nat) : Bool := aheadV ((itL kd nu gl rn n 2 d X i).2 0) ((itL kd nu gl rn n 2 d X i).2 1)
theorem wt_in {x : Int32} (h : decide ((3 : Int32) ≤ x ∧ x ≤ 5) = true) : ∃ j, 3 ≤ j ∧ j ≤ 5 ∧ x = nI j := by
  have h1 := of_decide_eq_true h
  have h2 : (0 : Int32) ≤ x := by
    rw [Int32.le_iff_toInt_le] at *
    have e1 : (3 : Int32).toInt = 3 := by decide
    have e0 : (0 : Int32).toInt = 0 := by decide
    omega
  obtain ⟨j, hj, rfl⟩ := wh_in (k := 5) (by omega) (decide_eq_true ⟨h2, h1.2⟩)
  exact ⟨j, (nI_leI (a := 3) (b := j) (by omega) (by omega)).mp h1.1, by omega, rfl⟩
