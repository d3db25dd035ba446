theorem leanN_sd {sd sd2 wt : Nat → Int32} {v : Nat} : ∀ n, (∀ j, j < n → sd j = sd2 j) → leanN sd wt v n = leanN sd2 wt v n
  | 0, _ => rfl
  | n + 1, h => by
    show leanN sd wt v n + (if sd n = 1 then _ else _) = leanN sd2 wt v n + (if sd2 n = 1 then _ else _)
    rw [leanN_sd n (fun j hj => h j (by omega)), h n (by omega)]
theorem HM_sd {sd sd2 wt : Nat → Int32} {n : Nat} {w : Int32} (h : ∀ j, j < n → sd j = sd2 j) : HM sd wt n w = HM sd2 wt n w := by
  funext v
  unfold HM
  rw [leanN_sd n h]
theorem sdM_sd (kd nu gl rn : Nat → Int32) (n d : Nat) (sd sd2 : Nat → Int32) : ∀ j, j < n → sdM kd nu gl rn n d sd j = sdM kd nu gl rn n d sd2 j := fun j hj => by
  unfold sdM
  rw [mapN_lt hj, mapN_lt hj]
theorem wtM_sd {sd sd2 wt : Nat → Int32} {n : Nat} {w : Int32} {i : Nat} (h : ∀ j, j < n → sd j = sd2 j) : wtM sd wt n w i = wtM sd2 wt n w i := by
  funext k
  unfold wtM
  by_cases q : k / 8 < i ∧ k % 8 < n
  · rw [if_pos q, if_pos q, h _ q.2]
  · rw [if_neg q, if_neg q]
theorem passM_sd (kd nu gl rn : Nat → Int32) (n nv : Nat) (sd sd2 : Nat → Int32) (S : MS) : (passM kd nu gl rn n nv (sd, S)).2 = (passM kd nu gl rn n nv (sd2, S)).2 := by
  have h := sdM_sd kd nu gl rn n S.1 sd sd2
  have h1 : HM (sdM kd nu gl rn n S.1 sd) S.2.2.2.2.2 n (rn (S.1 % 12)) = HM (sdM kd nu gl rn n S.1 sd2) S.2.2.2.2.2 n (rn (S.1 % 12)) := HM_sd h
  have h2 : wtM (sdM kd nu gl rn n S.1 sd) S.2.2.2.2.2 n (rn (S.1 % 12)) nv = wtM (sdM kd nu gl rn n S.1 sd2) S.2.2.2.2.2 n (rn (S.1 % 12)) nv := wtM_sd h
  unfold passM htM ptM coM roM
  simp only [h1, h2]
theorem itM_sd (kd nu gl rn : Nat → Int32) (n nv : Nat) (sd sd2 : Nat → Int32) (S : MS) : ∀ k, (itM kd nu gl rn n nv (sd, S) k).2 = (itM kd nu gl rn n nv (sd2, S) k).2
  | 0 => rfl
  | k + 1 => by
    show (passM kd nu gl rn n nv (itM kd nu gl rn n nv (sd, S) k)).2 = (passM kd nu gl rn n nv (itM kd nu gl rn n nv (sd2, S) k)).2
    have h := itM_sd kd nu gl rn n nv sd sd2 S k
    have e1 : itM kd nu gl rn n nv (sd, S) k = ((itM kd nu gl rn n nv (sd, S) k).1, (itM kd nu gl rn n nv (sd2, S) k).2) := by rw [← h]
    rw [e1]
    exact passM_sd kd nu gl rn n nv _ _ _
def advF (P : Nat → Int32) : Nat → Int32 × Int32
  | 0 => (P 0, -1)
  | i + 1 => if (advF P i).1 < P (i + 1) then (P (i + 1), nI i) else advF P i
theorem advF_t {P : Nat → Int32} {i : Nat} {a b : Int32} (h1 : a = (advF P i).1) (h : ¬ P (i + 1) ≤ a) : P (i + 1) = (advF P (i + 1)).1 ∧ nI i = (advF P (i + 1)).2 := by
  have e : advF P (i + 1) = (P (i + 1), nI i) := if_pos (by rw [← h1]; exact Int32.not_le.mp h)
  rw [e]; exact ⟨rfl, rfl⟩
theorem advF_f {P : Nat → Int32} {i : Nat} {a b : Int32} (h1 : a = (advF P i).1) (h2 : b = (advF P i).2) (h : P (i + 1) ≤ a) : a = (advF P (i + 1)).1 ∧ b = (advF P (i + 1)).2 := by
  have e : advF P (i + 1) = advF P i := if_neg (by rw [← h1]; exact Int32.not_lt.mpr h)
  rw [e]; exact ⟨h1, h2⟩
def advP (kd nu gl rn : Nat → Int32) (n nv d : Nat) (ht : Int32) (pt co ro wt : Nat → Int32) (v k t : Nat) : Int32 :=
  (itM kd nu gl rn n nv (fun _ => 0, d, ht, pt, co, ro, if t = 0 then wt else upd wt (8 * v + (t - 1)) 0) k).2.2.2.1 v
theorem advP_0 {kd nu gl rn : Nat → Int32} {n nv d : Nat} {ht : Int32} {pt co ro wt : Nat → Int32} {v k : Nat} (sd : Nat → Int32) : (itM kd nu gl rn n nv (sd, d, ht, pt, co, ro, wt) k).2.2.2.1 v = advP kd nu gl rn n nv d ht pt co ro wt v k 0 := by
  unfold advP
  rw [if_pos rfl, itM_sd kd nu gl rn n nv sd (fun _ => 0)]
theorem advP_s {kd nu gl rn : Nat → Int32} {n nv d : Nat} {ht : Int32} {pt co ro wt : Nat → Int32} {v k s : Nat} (sd : Nat → Int32) : (itM kd nu gl rn n nv (sd, d, ht, pt, co, ro, upd wt (8 * v + s) 0) k).2.2.2.1 v = advP kd nu gl rn n nv d ht pt co ro wt v k (s + 1) := by
  unfold advP
  rw [if_neg (Nat.succ_ne_zero s), Nat.add_sub_cancel, itM_sd kd nu gl rn n nv sd (fun _ => 0)]
def ahM (kd nu gl rn : Nat → Int32) (n nv : Nat) (X : MX) (u w i : Nat) : Bool := aheadB ((itM kd nu gl rn n nv X i).2.2.2.1 u) ((itM kd nu gl rn n nv X i).2.2.2.2.1 u) (nI u) ((itM kd nu gl rn n nv X i).2.2.2.1 w) ((itM kd nu gl rn n nv X i).2.2.2.2.1 w) (nI w)
theorem itM_dlt {kd nu gl rn : Nat → Int32} {n nv : Nat} {X : MX} {k m : Nat} (h : X.2.1 + k < m) : (itM kd nu gl rn n nv X k).2.1 < m := Nat.lt_of_le_of_lt (Nat.le_of_eq (itM_d _ _ _ _ _ _ _ _)) h
