/-! ===== the reference: a day, days ===== -/
theorem nd_ne {l : List Nat} (h : l.Nodup) (i j : Nat) {a b : Nat} (hi : l[i]? = some a) (hj : l[j]? = some b) (hij : i ≠ j) : a ≠ b := fun e => by
  subst e
  exact hij ((List.getElem?_inj (List.getElem?_eq_some_iff.mp hi).1 h).mp (hi.trans hj.symm))
def sdM (kd nu gl rn : Nat → Int32) (n d : Nat) (sd : Nat → Int32) : Nat → Int32 := mapN (fun j _ => b2i (sayB (kd j) (nu j) gl rn d)) sd n
def HM (sd wt : Nat → Int32) (n : Nat) (w : Int32) (v : Nat) : Bool := mhit (leanN sd wt v n) w
def ptM (sd wt : Nat → Int32) (n : Nat) (w : Int32) (pt : Nat → Int32) (i : Nat) : Nat → Int32 := mapN (fun v x => x + b2i (HM sd wt n w v)) pt i
def htM (sd wt : Nat → Int32) (n : Nat) (w : Int32) (ht : Int32) (i : Nat) : Int32 := ht + sumN (fun v => b2i (HM sd wt n w v)) i
def roM (sd wt : Nat → Int32) (n : Nat) (w : Int32) (ro : Nat → Int32) (i : Nat) : Nat → Int32 := mapN (fun v x => if HM sd wt n w v then x + 1 else 0) ro i
def coM (sd wt : Nat → Int32) (n : Nat) (w : Int32) (ro co : Nat → Int32) (i : Nat) : Nat → Int32 := mapN (fun v x => msell1 (if HM sd wt n w v then ro v + 1 else 0) x) co i
def wtM (sd wt : Nat → Int32) (n : Nat) (w : Int32) (i : Nat) : Nat → Int32 := fun k => if k / 8 < i ∧ k % 8 < n then mlearn1 w (sd (k % 8)) (wt k) else wt k
theorem wtM_0 (sd wt : Nat → Int32) (n : Nat) (w : Int32) : wtM sd wt n w 0 = wt := funext fun k => if_neg (fun h => Nat.not_lt_zero _ h.1)
theorem wtM_s (sd wt : Nat → Int32) (n : Nat) (w : Int32) (i : Nat) : rowN (fun j x => mlearn1 w (sd j) x) (wtM sd wt n w i) i n = wtM sd wt n w (i + 1) := by
  funext k
  unfold rowN wtM
  by_cases h1 : k / 8 = i
  · have h3 : ¬ k / 8 < i := by omega
    have h4 : k / 8 < i + 1 := by omega
    by_cases h2 : k % 8 < n
    · simp only [h1, h2, and_self, if_true, Nat.lt_irrefl, false_and, if_false, Nat.lt_succ_self]
    · simp only [h2, and_false, if_false]
  · have : (k / 8 < i + 1) ↔ (k / 8 < i) := by omega
    simp only [h1, false_and, if_false, this]
theorem lean_wtM (sd wt : Nat → Int32) (n : Nat) (w : Int32) (i : Nat) : ∀ m, m ≤ 8 → leanN sd (wtM sd wt n w i) i m = leanN sd wt i m := by
  intro m
  induction m with
  | zero => intro _; rfl
  | succ m ih =>
    intro hm
    have e : wtM sd wt n w i (8 * i + m) = wt (8 * i + m) := if_neg (fun h => by omega)
    show leanN sd (wtM sd wt n w i) i m + _ = leanN sd wt i m + _
    rw [ih (by omega)]
    simp only [e]
theorem HM_wtM (sd wt : Nat → Int32) {n : Nat} (w : Int32) (i : Nat) (hn : n ≤ 8) : mhit (leanN sd (wtM sd wt n w i) i n) w = HM sd wt n w i := by
  unfold HM; rw [lean_wtM sd wt n w i n hn]
theorem ptM_s {sd wt : Nat → Int32} {n : Nat} {w : Int32} {pt : Nat → Int32} {i : Nat} : upd (ptM sd wt n w pt i) i (ptM sd wt n w pt i i + b2i (HM sd wt n w i)) = ptM sd wt n w pt (i + 1) := mapN_s (by unfold ptM; rw [mapN_at])
theorem roM_s {sd wt : Nat → Int32} {n : Nat} {w : Int32} {ro : Nat → Int32} {i : Nat} : upd (roM sd wt n w ro i) i (if HM sd wt n w i then roM sd wt n w ro i i + 1 else 0) = roM sd wt n w ro (i + 1) := mapN_s (by unfold roM; rw [mapN_at])
theorem coM_s {sd wt : Nat → Int32} {n : Nat} {w : Int32} {ro co : Nat → Int32} {i : Nat} : upd (coM sd wt n w ro co i) i (msell1 (roM sd wt n w ro (i + 1) i) (coM sd wt n w ro co i i)) = coM sd wt n w ro co (i + 1) := mapN_s (by unfold coM roM; rw [mapN_at, mapN_lt (Nat.lt_succ_self i)])
/-- the days: what stands in State, with the row of sayings -/
abbrev MS : Type := Nat × Int32 × (Nat → Int32) × (Nat → Int32) × (Nat → Int32) × (Nat → Int32)
abbrev MX : Type := (Nat → Int32) × MS
def passM (kd nu gl rn : Nat → Int32) (n nv : Nat) (X : MX) : MX :=
  (sdM kd nu gl rn n X.2.1 X.1, X.2.1 + 1, htM (sdM kd nu gl rn n X.2.1 X.1) X.2.2.2.2.2.2 n (rn (X.2.1 % 12)) X.2.2.1 nv, ptM (sdM kd nu gl rn n X.2.1 X.1) X.2.2.2.2.2.2 n (rn (X.2.1 % 12)) X.2.2.2.1 nv,
   coM (sdM kd nu gl rn n X.2.1 X.1) X.2.2.2.2.2.2 n (rn (X.2.1 % 12)) X.2.2.2.2.2.1 X.2.2.2.2.1 nv, roM (sdM kd nu gl rn n X.2.1 X.1) X.2.2.2.2.2.2 n (rn (X.2.1 % 12)) X.2.2.2.2.2.1 nv, wtM (sdM kd nu gl rn n X.2.1 X.1) X.2.2.2.2.2.2 n (rn (X.2.1 % 12)) nv)
def itM (kd nu gl rn : Nat → Int32) (n nv : Nat) (X : MX) : Nat → MX
  | 0 => X
  | k + 1 => passM kd nu gl rn n nv (itM kd nu gl rn n nv X k)
theorem itM_d (kd nu gl rn : Nat → Int32) (n nv : Nat) (X : MX) : ∀ k, (itM kd nu gl rn n nv X k).2.1 = X.2.1 + k
  | 0 => rfl
  | k + 1 => by show (itM kd nu gl rn n nv X k).2.1 + 1 = _; rw [itM_d]; omega
def placeM (pt co : Nat → Int32) (nv v : Nat) : Int32 := 1 + sumN (fun k => b2i (aheadB (pt k) (co k) (nI k) (pt v) (co v) (nI v))) nv
theorem ahead_self (p c n : Int32) : aheadB p c n p c n = false := by rw [ah3 rfl rfl]; exact decide_eq_false (fun h => by have := Int32.lt_iff_toInt_lt.mp h; omega)
def guessM (sd wt : Nat → Int32) (n nv : Nat) : Int32 := sumN (fun v => b2i (decide (0 < leanN sd wt v n))) nv
theorem b2le {x acc y : Int32} (h : x ≤ 0) (e : y = acc + 0) : y = acc + b2i (decide (0 < x)) := by rw [decide_eq_false (Int32.not_lt.mpr h)]; exact e
theorem b2gt {x acc y : Int32} (h : ¬ x ≤ 0) (e : y = acc + 1) : y = acc + b2i (decide (0 < x)) := by rw [decide_eq_true (Int32.not_le.mp h)]; exact e
def toldM (kd nu gl rn wt : Nat → Int32) (nv j k : Nat) : Int32 :=
  if k = 0 then kd j else if k = 1 then nu j else if k = 2 then rightN (kd j) (nu j) gl rn 12 else sumN (fun v => wt (8 * v + j)) nv
def aboutM (sd pt co ro wt : Nat → Int32) (n nv v k : Nat) : Int32 :=
  if k = 0 then pt v else if k = 1 then co v else if k = 2 then ro v else if k = 3 then sumN (fun j => wt (8 * v + j)) n else if k = 4 then placeM pt co nv v
  else if k = 5 then b2i (decide (0 < leanN sd wt v n)) else leanN sd wt v n
def countM (sd pt co rn wt : Nat → Int32) (n nv d k : Nat) : Int32 :=
  if k = 0 then nI d else if k = 1 then nI n else if k = 2 then nI nv else if k = 3 then sumN pt nv else if k = 4 then sumN co nv else if k = 5 then guessM sd wt n nv else sumN rn 12
