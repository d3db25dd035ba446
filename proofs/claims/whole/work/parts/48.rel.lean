/-! ===== the league and the reference say the same: a village, its days ===== -/
theorem sumN_congr {w w2 : Nat → Int32} : ∀ n, (∀ j, j < n → w j = w2 j) → sumN w n = sumN w2 n
  | 0, _ => rfl
  | n + 1, h => by
    show sumN w n + w n = sumN w2 n + w2 n
    rw [sumN_congr n (fun j hj => h j (by omega)), h n (by omega)]
theorem sumN_tail {w : Nat → Int32} {n : Nat} : ∀ m, n ≤ m → (∀ j, n ≤ j → j < m → w j = 0) → sumN w m = sumN w n
  | 0, h, _ => by obtain rfl : n = 0 := by omega
                  rfl
  | m + 1, h, hz => by
    by_cases e : n = m + 1
    · rw [e]
    · show sumN w m + w m = sumN w n
      rw [sumN_tail m (by omega) (fun j h1 h2 => hz j h1 (by omega)), hz m (by omega) (by omega), Int32.add_zero]
theorem truth_mul (b : Bool) (x : Int32) : truth b * x = if b2i b = 1 then x else -x := by
  cases b
  · show (-1 : Int32) * x = if (0 : Int32) = 1 then x else -x
    rw [if_neg (by decide), Int32.neg_mul, Int32.one_mul]
  · show (1 : Int32) * x = if (1 : Int32) = 1 then x else -x
    rw [if_pos rfl, Int32.one_mul]
theorem lead_lean (kd nu gl rn : Nat → Int32) {sa sd wt w : Nat → Int32} {n d v : Nat} (hn : n ≤ 8) (hsa : ∀ j, n ≤ j → sa j = 0) (hw : ∀ j, j < 8 → w j = wt (8 * v + j)) : leadN (saS kd nu gl rn n d sa) w 8 = leanN (sdM kd nu gl rn n d sd) wt v n := by
  unfold leadN leanN
  rw [sumN_tail (n := n) 8 hn (fun j h1 _ => by unfold saS mapN; rw [if_neg (by omega), hsa j h1, Int32.zero_mul])]
  refine sumN_congr n (fun j hj => ?_)
  unfold saS sdM
  rw [mapN_lt hj, mapN_lt hj, truth_mul, hw j (by omega)]
theorem learn_eq (b rb : Bool) (w : Int32) : learn1 (truth rb) (truth b) w = mlearn1 (b2i rb) (b2i b) w := by
  have h1 : (1 : Int32) ≠ -1 := by decide
  have h2 : (-1 : Int32) = -(1 : Int32) := by decide
  have h3 : (1 : Int32) = -(-1 : Int32) := by decide
  have hm : (if 100 < w + 1 then (100 : Int32) else w + 1) = if w + 1 < 100 then w + 1 else 100 := by
    by_cases q : 100 < w + 1
    · rw [if_pos q, if_neg (fun z => by rw [Int32.lt_iff_toInt_lt] at q z; omega)]
    · rw [if_neg q]
      by_cases z : w + 1 < 100
      · rw [if_pos z]
      · rw [if_neg z]
        rw [Int32.lt_iff_toInt_lt] at q z
        exact Int32.toInt_inj.mp (by omega)
  unfold learn1 mlearn1
  cases b <;> cases rb
  · show (if (-1 : Int32) = -1 then (if 100 < w + 1 then (100 : Int32) else w + 1) else _) = (if (0 : Int32) = 0 then (if w + 1 < 100 then w + 1 else (100 : Int32)) else _)
    rw [if_pos rfl, if_pos rfl, hm]
  · show (if (-1 : Int32) = 1 then (if 100 < w + 1 then (100 : Int32) else w + 1) else if (-1 : Int32) = -(1 : Int32) then w - (w + 3) / 4 else w) = (if (0 : Int32) = 1 then (if w + 1 < 100 then w + 1 else (100 : Int32)) else w - (w + 3) / 4)
    rw [if_neg (by decide), if_pos h2, if_neg (by decide)]
  · show (if (1 : Int32) = -1 then (if 100 < w + 1 then (100 : Int32) else w + 1) else if (1 : Int32) = -(-1 : Int32) then w - (w + 3) / 4 else w) = (if (1 : Int32) = 0 then (if w + 1 < 100 then w + 1 else (100 : Int32)) else w - (w + 3) / 4)
    rw [if_neg (by decide), if_pos h3, if_neg (by decide)]
  · show (if (1 : Int32) = 1 then (if 100 < w + 1 then (100 : Int32) else w + 1) else _) = (if (1 : Int32) = 1 then (if w + 1 < 100 then w + 1 else (100 : Int32)) else _)
    rw [if_pos rfl, if_pos rfl, hm]
theorem learn_0 (rb : Bool) (w : Int32) : learn1 (truth rb) 0 w = w := by
  unfold learn1 truth
  cases rb
  · rw [if_neg (by decide), if_neg (by decide)]
  · rw [if_neg (by decide), if_neg (by decide)]
theorem pos_small {x : Int32} (h : ¬ x ≤ 0) (h5 : x < 5) : ∃ k, 1 ≤ k ∧ k ≤ 5 ∧ x = nI k := by
  obtain ⟨j, hj, rfl⟩ := nI_of (x := x) (fun z => h (by rw [Int32.le_iff_toInt_le]; rw [Int32.lt_iff_toInt_lt] at z; omega))
  refine ⟨j, ?_, ?_, rfl⟩
  · rcases Nat.eq_zero_or_pos j with rfl | h0
    · exact absurd (by decide) h
    · exact h0
  · have := (nI_ltI (a := j) (b := 5) hj (by omega)).mp h5
    omega
theorem sell_eq {row : Int32} {c : Nat} (hc : c < 2 ^ 30) : sell1 row (nI c) = msell1 row (nI c) ∧ ∃ c1, c1 ≤ c + 5 ∧ msell1 row (nI c) = nI c1 := by
  have e : row < 1 ↔ row ≤ 0 := by
    rw [Int32.lt_iff_toInt_lt, Int32.le_iff_toInt_le]
    have h1 : (1 : Int32).toInt = 1 := by decide
    have h0 : (0 : Int32).toInt = 0 := by decide
    omega
  unfold sell1 msell1
  by_cases h : row ≤ 0
  · rw [if_pos (e.mpr h), if_pos h]
    cases c with
    | zero =>
      have a1 : nI 0 ≤ (0 : Int32) := by decide
      have a2 : ¬ (0 : Int32) < nI 0 - 1 := by decide
      rw [if_pos a1, if_neg a2]
      exact ⟨rfl, 0, by omega, rfl⟩
    | succ c =>
      have a1 : ¬ nI (c + 1) ≤ (0 : Int32) := nI_nle (by omega) (by omega)
      rw [if_neg a1, nI_pred]
      cases c with
      | zero => rw [if_neg (by decide)]; exact ⟨rfl, 0, by omega, rfl⟩
      | succ c =>
        have a2 : (0 : Int32) < nI (c + 1) := (nI_ltI (a := 0) (b := c + 1) (by omega) (by omega)).mpr (by omega)
        rw [if_pos a2]
        exact ⟨rfl, c + 1, by omega, rfl⟩
  · rw [if_neg (fun z => h (e.mp z)), if_neg h]
    have hm : (if 5 < row then (5 : Int32) else row) = if row < 5 then row else 5 := by
      by_cases q : 5 < row
      · rw [if_pos q, if_neg (fun z => by rw [Int32.lt_iff_toInt_lt] at q z; omega)]
      · rw [if_neg q]
        by_cases z : row < 5
        · rw [if_pos z]
        · rw [if_neg z]
          rw [Int32.lt_iff_toInt_lt] at q z
          exact Int32.toInt_inj.mp (by omega)
    rw [hm]
    refine ⟨rfl, ?_⟩
    by_cases z : row < 5
    · obtain ⟨k, _, hk2, rfl⟩ := pos_small h z
      rw [if_pos z, nI_add]
      exact ⟨c + k, by omega, rfl⟩
    · rw [if_neg z]
      exact ⟨c + 5, by omega, nI_add c 5⟩
/-- a village of the league and what the reference holds of it -/
def VilM (V : VV) (p c r : Int32) (w : Nat → Int32) : Prop := V.2.1 = p ∧ V.2.2.1 = c ∧ V.2.2.2.1 = r ∧ ∀ j, j < 8 → V.2.2.2.2 j = w j
theorem hit_eq (kd nu gl rn : Nat → Int32) {sa sd wt w : Nat → Int32} {n d v : Nat} (hn : n ≤ 8) (hsa : ∀ j, n ≤ j → sa j = 0) (hw : ∀ j, j < 8 → w j = wt (8 * v + j)) : hitB (leadN (saS kd nu gl rn n d sa) w 8) (rbB rn d) = HM (sdM kd nu gl rn n d sd) wt n (rn (d % 12)) v := by
  unfold hitB HM mhit rbB
  rw [lead_lean kd nu gl rn (sd := sd) hn hsa hw]
theorem VilM.day {V : VV} {kd nu gl rn sa sd pt co ro wt : Nat → Int32} {n nv d v c0 : Nat} (h : VilM V (pt v) (co v) (ro v) (fun j => wt (8 * v + j))) (hc : co v = nI c0) (hc0 : c0 < 2 ^ 30) (hn : n ≤ 8) (hv : v < nv) (hrn : ∃ b, rn (d % 12) = b2i b) (hsa : ∀ j, n ≤ j → sa j = 0) :
    VilM (stepV (saS kd nu gl rn n d sa) (rbB rn d) V) (ptM (sdM kd nu gl rn n d sd) wt n (rn (d % 12)) pt nv v) (coM (sdM kd nu gl rn n d sd) wt n (rn (d % 12)) ro co nv v) (roM (sdM kd nu gl rn n d sd) wt n (rn (d % 12)) ro nv v) (fun j => wtM (sdM kd nu gl rn n d sd) wt n (rn (d % 12)) nv (8 * v + j)) ∧ ∃ c1, c1 ≤ c0 + 5 ∧ coM (sdM kd nu gl rn n d sd) wt n (rn (d % 12)) ro co nv v = nI c1 := by
  obtain ⟨h1, h2, h3, h4⟩ := h
  have hh := hit_eq kd nu gl rn (sa := sa) (sd := sd) (d := d) hn hsa h4
  unfold ptM coM roM
  rw [mapN_lt hv, mapN_lt hv, mapN_lt hv]
  obtain ⟨q1, q2⟩ := sell_eq (row := if HM (sdM kd nu gl rn n d sd) wt n (rn (d % 12)) v then ro v + 1 else 0) hc0
  refine ⟨⟨?_, ?_, ?_, ?_⟩, by rw [hc]; exact q2⟩
  · show V.2.1 + b2i (hitB _ _) = _
    rw [hh, h1]
  · show sell1 (if hitB _ _ then V.2.2.2.1 + 1 else 0) V.2.2.1 = _
    rw [hh, h2, h3, hc]
    exact q1
  · show (if hitB _ _ then V.2.2.2.1 + 1 else 0) = _
    rw [hh, h3]
  · intro j hj
    show mapN (fun j w => learn1 (truth (rbB rn d)) (saS kd nu gl rn n d sa j) w) V.2.2.2.2 8 j = wtM _ wt n _ nv (8 * v + j)
    rw [mapN_lt hj, h4 j hj]
    unfold wtM
    have e1 : (8 * v + j) / 8 = v := by omega
    have e2 : (8 * v + j) % 8 = j := by omega
    rw [e1, e2]
    by_cases q : j < n
    · rw [if_pos ⟨hv, q⟩]
      unfold saS sdM
      rw [mapN_lt q, mapN_lt q, rb_eq hrn]
      exact learn_eq _ _ _
    · rw [if_neg (fun z => q z.2)]
      unfold saS mapN
      rw [if_neg q, hsa j (by omega)]
      exact learn_0 _ _
/-- a village through the days, by itself -/
def itV (kd nu gl rn : Nat → Int32) (n d : Nat) (sa : Nat → Int32) (V : VV) : Nat → VV
  | 0 => V
  | k + 1 => stepV (saS kd nu gl rn n (d + k) sa) (rbB rn (d + k)) (itV kd nu gl rn n d sa V k)
theorem saS_2 (kd nu gl rn : Nat → Int32) (n d d2 : Nat) (sa : Nat → Int32) : saS kd nu gl rn n d (saS kd nu gl rn n d2 sa) = saS kd nu gl rn n d sa := by
  funext j
  unfold saS mapN
  by_cases h : j < n
  · simp [h]
  · simp [h]
theorem itL_1 (kd nu gl rn : Nat → Int32) (n m d : Nat) (sa : Nat → Int32) (vs : Nat → VV) (d2 : Nat) : ∀ k, saS kd nu gl rn n d2 (itL kd nu gl rn n m d (sa, vs) k).1 = saS kd nu gl rn n d2 sa
  | 0 => rfl
  | k + 1 => by
    show saS kd nu gl rn n d2 (saS kd nu gl rn n (d + k) (itL kd nu gl rn n m d (sa, vs) k).1) = _
    rw [saS_2, itL_1 kd nu gl rn n m d sa vs d2 k]
theorem itL_0 (kd nu gl rn : Nat → Int32) (n m d : Nat) (sa : Nat → Int32) (vs : Nat → VV) {j : Nat} (hj : n ≤ j) : ∀ k, (itL kd nu gl rn n m d (sa, vs) k).1 j = sa j
  | 0 => rfl
  | k + 1 => by
    show saS kd nu gl rn n (d + k) (itL kd nu gl rn n m d (sa, vs) k).1 j = _
    unfold saS mapN
    rw [if_neg (by omega)]
    exact itL_0 kd nu gl rn n m d sa vs hj k
theorem itL_2 (kd nu gl rn : Nat → Int32) (n m d : Nat) (sa : Nat → Int32) (vs : Nat → VV) {i : Nat} (hi : i < m) : ∀ k, (itL kd nu gl rn n m d (sa, vs) k).2 i = itV kd nu gl rn n d sa (vs i) k
  | 0 => rfl
  | k + 1 => by
    show mapV (stepV (saS kd nu gl rn n (d + k) (itL kd nu gl rn n m d (sa, vs) k).1) (rbB rn (d + k))) (itL kd nu gl rn n m d (sa, vs) k).2 m i = _
    unfold mapV
    rw [if_pos hi, itL_1, itL_2 kd nu gl rn n m d sa vs hi k]
    rfl
theorem itL_3 (kd nu gl rn : Nat → Int32) (n m d : Nat) (sa : Nat → Int32) (vs : Nat → VV) {i : Nat} (hi : ¬ i < m) : ∀ k, (itL kd nu gl rn n m d (sa, vs) k).2 i = vs i
  | 0 => rfl
  | k + 1 => by
    show mapV _ (itL kd nu gl rn n m d (sa, vs) k).2 m i = _
    unfold mapV
    rw [if_neg hi]
    exact itL_3 kd nu gl rn n m d sa vs hi k
theorem itV_1 (kd nu gl rn : Nat → Int32) (n d : Nat) (sa : Nat → Int32) (V : VV) : ∀ k, (itV kd nu gl rn n d sa V k).1 = V.1
  | 0 => rfl
  | k + 1 => itV_1 kd nu gl rn n d sa V k
/-- through k days -/
theorem VilM.days {V : VV} {kd nu gl rn sa : Nat → Int32} {n nv v c0 : Nat} {X : MX} (h : VilM V (X.2.2.2.1 v) (X.2.2.2.2.1 v) (X.2.2.2.2.2.1 v) (fun j => X.2.2.2.2.2.2 (8 * v + j))) (hc : X.2.2.2.2.1 v = nI c0) (hn : n ≤ 8) (hv : v < nv) (hrn : ∀ k, k < 12 → ∃ b, rn k = b2i b) (hsa : ∀ j, n ≤ j → sa j = 0) : ∀ k, c0 + 5 * k < 2 ^ 30 →
    VilM (itV kd nu gl rn n X.2.1 sa V k) ((itM kd nu gl rn n nv X k).2.2.2.1 v) ((itM kd nu gl rn n nv X k).2.2.2.2.1 v) ((itM kd nu gl rn n nv X k).2.2.2.2.2.1 v) (fun j => (itM kd nu gl rn n nv X k).2.2.2.2.2.2 (8 * v + j)) ∧ ∃ c1, c1 ≤ c0 + 5 * k ∧ (itM kd nu gl rn n nv X k).2.2.2.2.1 v = nI c1
  | 0, _ => ⟨h, c0, by omega, hc⟩
  | k + 1, hk => by
    obtain ⟨a, c1, hc1, e1⟩ := VilM.days h hc hn hv hrn hsa k (by omega)
    have ed := itM_d kd nu gl rn n nv X k
    have z := VilM.day (kd := kd) (nu := nu) (gl := gl) (rn := rn) (sa := sa) (sd := (itM kd nu gl rn n nv X k).1) (n := n) (nv := nv) (d := (itM kd nu gl rn n nv X k).2.1) a e1 (by omega) hn hv (hrn _ (Nat.mod_lt _ (by omega))) hsa
    obtain ⟨z1, c2, hc2, e2⟩ := z
    refine ⟨?_, c2, by omega, e2⟩
    have z3 : itV kd nu gl rn n X.2.1 sa V (k + 1) = stepV (saS kd nu gl rn n (itM kd nu gl rn n nv X k).2.1 sa) (rbB rn (itM kd nu gl rn n nv X k).2.1) (itV kd nu gl rn n X.2.1 sa V k) := by rw [ed]; rfl
    rw [z3]
    exact z1
theorem itM_off (kd nu gl rn : Nat → Int32) (n nv : Nat) (X : MX) {v : Nat} (hv : ¬ v < nv) : ∀ k, (itM kd nu gl rn n nv X k).2.2.2.1 v = X.2.2.2.1 v ∧ (itM kd nu gl rn n nv X k).2.2.2.2.1 v = X.2.2.2.2.1 v ∧ (itM kd nu gl rn n nv X k).2.2.2.2.2.1 v = X.2.2.2.2.2.1 v ∧ ∀ j, j < 8 → (itM kd nu gl rn n nv X k).2.2.2.2.2.2 (8 * v + j) = X.2.2.2.2.2.2 (8 * v + j)
  | 0 => ⟨rfl, rfl, rfl, fun _ _ => rfl⟩
  | k + 1 => by
    obtain ⟨a1, a2, a3, a4⟩ := itM_off kd nu gl rn n nv X hv k
    refine ⟨?_, ?_, ?_, fun j hj => ?_⟩
    · show ptM _ _ _ _ _ nv v = _
      unfold ptM mapN
      rw [if_neg hv]; exact a1
    · show coM _ _ _ _ _ _ nv v = _
      unfold coM mapN
      rw [if_neg hv]; exact a2
    · show roM _ _ _ _ _ nv v = _
      unfold roM mapN
      rw [if_neg hv]; exact a3
    · show wtM _ _ _ _ nv (8 * v + j) = _
      unfold wtM
      rw [if_neg (fun z => by omega)]; exact a4 j hj
theorem itM_hi (kd nu gl rn : Nat → Int32) (n nv : Nat) (X : MX) {v j : Nat} (hj : n ≤ j) (hj8 : j < 8) : ∀ k, (itM kd nu gl rn n nv X k).2.2.2.2.2.2 (8 * v + j) = X.2.2.2.2.2.2 (8 * v + j)
  | 0 => rfl
  | k + 1 => by
    show wtM _ _ _ _ nv (8 * v + j) = _
    unfold wtM
    rw [if_neg (fun z => by omega)]
    exact itM_hi kd nu gl rn n nv X hj hj8 k
/-- all villages; M bounds the coins -/
def AllM (n M : Nat) (vs : Nat → VV) (pt co ro wt : Nat → Int32) : Prop := ∀ v, v < 6 → (vs v).1 = nI v ∧ VilM (vs v) (pt v) (co v) (ro v) (fun j => wt (8 * v + j)) ∧ (∃ c0, c0 ≤ M ∧ co v = nI c0) ∧ ∀ j, n ≤ j → j < 8 → wt (8 * v + j) = 20
theorem AllM.mono {n M M2 : Nat} {vs : Nat → VV} {pt co ro wt : Nat → Int32} (h : AllM n M vs pt co ro wt) (hM : M ≤ M2) : AllM n M2 vs pt co ro wt := fun v hv => by
  obtain ⟨a, b, ⟨c0, h1, h2⟩, d⟩ := h v hv
  exact ⟨a, b, ⟨c0, by omega, h2⟩, d⟩
theorem AllM.sign {n M : Nat} {vs : Nat → VV} {pt co ro wt : Nat → Int32} (h : AllM n M vs pt co ro wt) : AllM (n + 1) M vs pt co ro wt := fun v hv => by
  obtain ⟨a, b, c, d⟩ := h v hv
  exact ⟨a, b, c, fun j h1 h2 => d j (by omega) h2⟩
theorem AllM.days {kd nu gl rn sa sd pt co ro wt : Nat → Int32} {n nv d M : Nat} {ht : Int32} {vs : Nat → VV} (h : AllM n M vs pt co ro wt) (hn : n ≤ 8) (hnv : nv ≤ 6) (hrn : ∀ k, k < 12 → ∃ b, rn k = b2i b) (hsa : ∀ j, n ≤ j → sa j = 0) (k : Nat) (hM : M + 5 * k < 2 ^ 30) :
    AllM n (M + 5 * k) (itL kd nu gl rn n nv d (sa, vs) k).2 (itM kd nu gl rn n nv (sd, d, ht, pt, co, ro, wt) k).2.2.2.1 (itM kd nu gl rn n nv (sd, d, ht, pt, co, ro, wt) k).2.2.2.2.1 (itM kd nu gl rn n nv (sd, d, ht, pt, co, ro, wt) k).2.2.2.2.2.1 (itM kd nu gl rn n nv (sd, d, ht, pt, co, ro, wt) k).2.2.2.2.2.2 := fun v hv => by
  obtain ⟨a, b, ⟨c0, hc0, ec⟩, e⟩ := h v hv
  have hi : ∀ j, n ≤ j → j < 8 → (itM kd nu gl rn n nv (sd, d, ht, pt, co, ro, wt) k).2.2.2.2.2.2 (8 * v + j) = 20 := fun j h1 h2 => (itM_hi kd nu gl rn n nv _ h1 h2 k).trans (e j h1 h2)
  by_cases q : v < nv
  · rw [itL_2 _ _ _ _ _ _ _ _ _ q]
    obtain ⟨z1, c1, hc1, z2⟩ := VilM.days (kd := kd) (nu := nu) (gl := gl) (rn := rn) (sa := sa) (X := (sd, d, ht, pt, co, ro, wt)) b ec hn q hrn hsa k (by omega)
    exact ⟨(itV_1 _ _ _ _ _ _ _ _ k).trans a, z1, ⟨c1, by omega, z2⟩, hi⟩
  · rw [itL_3 _ _ _ _ _ _ _ _ _ q]
    obtain ⟨z1, z2, z3, z4⟩ := itM_off kd nu gl rn n nv (sd, d, ht, pt, co, ro, wt) q k
    obtain ⟨b1, b2, b3, b4⟩ := b
    exact ⟨a, ⟨b1.trans z1.symm, b2.trans z2.symm, b3.trans z3.symm, fun j hj => (b4 j hj).trans (z4 j hj).symm⟩, ⟨c0, by omega, z2.trans ec⟩, hi⟩
/-- the hits of the days -/
theorem hits_eq {kd nu gl rn sa sd pt co ro wt : Nat → Int32} {n nv d M : Nat} {ht : Int32} {vs : Nat → VV} (h : AllM n M vs pt co ro wt) (hn : n ≤ 8) (hnv : nv ≤ 6) (hrn : ∀ k, k < 12 → ∃ b, rn k = b2i b) (hsa : ∀ j, n ≤ j → sa j = 0) : ∀ k, M + 5 * k < 2 ^ 30 →
    (itM kd nu gl rn n nv (sd, d, ht, pt, co, ro, wt) k).2.2.1 = ht + sumN (fun i => hitsL kd nu gl rn n nv (d + i) (itL kd nu gl rn n nv d (sa, vs) i)) k
  | 0, _ => by show ht = ht + 0; rw [Int32.add_zero]
  | k + 1, hk => by
    have ih := hits_eq (kd := kd) (nu := nu) (gl := gl) (rn := rn) (sa := sa) (sd := sd) (d := d) (ht := ht) h hn hnv hrn hsa k (by omega)
    have hA := h.days (kd := kd) (nu := nu) (gl := gl) (rn := rn) (sa := sa) (sd := sd) (d := d) (ht := ht) hn hnv hrn hsa k (by omega)
    have ed := itM_d kd nu gl rn n nv (sd, d, ht, pt, co, ro, wt) k
    show (itM kd nu gl rn n nv (sd, d, ht, pt, co, ro, wt) k).2.2.1 + sumN _ nv = ht + (sumN _ k + hitsL kd nu gl rn n nv (d + k) (itL kd nu gl rn n nv d (sa, vs) k))
    rw [ih, Int32.add_assoc]
    congr 2
    unfold hitsL
    refine sumN_congr nv (fun v hv => ?_)
    unfold hitV
    rw [itL_1, ed]
    congr 1
    exact (hit_eq kd nu gl rn hn hsa (hA v (by omega)).2.1.2.2.2).symm
theorem sub_add {a b : Int32} : (a + b) - a = b := by rw [Int32.add_comm, Int32.add_sub_cancel]
