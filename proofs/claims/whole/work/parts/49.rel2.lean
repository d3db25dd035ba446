/-! ===== the answers of the two are the same ===== -/
theorem told_eq {kd nu gl rn pt co ro wt : Nat → Int32} {n nv M j k : Nat} {vs : Nat → VV} (h : AllM n M vs pt co ro wt) (hnv : nv ≤ 6) (hj : j < 8) : toldL kd nu gl rn vs nv j k = toldM kd nu gl rn wt nv j k := by
  unfold toldL toldM
  have e : sumN (fun v => (vs v).2.2.2.2 j) nv = sumN (fun v => wt (8 * v + j)) nv := sumN_congr nv (fun v hv => (h v (by omega)).2.1.2.2.2 j hj)
  rw [e]
theorem place_eq {pt co ro wt : Nat → Int32} {n nv M u : Nat} {vs : Nat → VV} (h : AllM n M vs pt co ro wt) (hnv : nv ≤ 6) (hu : u < 6) : placeV vs nv (vs u) = placeM pt co nv u := by
  unfold placeV placeM
  congr 1
  refine sumN_congr nv (fun v hv => ?_)
  obtain ⟨a1, ⟨b1, c1, -, -⟩, -, -⟩ := h v (by omega)
  obtain ⟨a2, ⟨b2, c2, -, -⟩, -, -⟩ := h u hu
  unfold aheadV
  rw [a1, b1, c1, a2, b2, c2]
theorem about_eq {kd nu gl rn sa sd pt co ro wt : Nat → Int32} {n nv d M u k : Nat} {vs : Nat → VV} (h : AllM n M vs pt co ro wt) (hn : n ≤ 8) (hnv : nv ≤ 6) (hu : u < 6) (hsa : ∀ j, n ≤ j → sa j = 0) : aboutL (saS kd nu gl rn n d sa) vs n nv u k = aboutM (sdM kd nu gl rn n d sd) pt co ro wt n nv u k := by
  obtain ⟨a, ⟨b1, b2, b3, b4⟩, -, -⟩ := h u hu
  have e1 : leadN (saS kd nu gl rn n d sa) (vs u).2.2.2.2 8 = leanN (sdM kd nu gl rn n d sd) wt u n := lead_lean kd nu gl rn hn hsa b4
  have e2 : sumN (vs u).2.2.2.2 n = sumN (fun j => wt (8 * u + j)) n := sumN_congr n (fun j hj => b4 j (by omega))
  unfold aboutL aboutM
  rw [e1, e2, b1, b2, b3, place_eq h hnv hu]
theorem count_eq {kd nu gl rn sa sd pt co ro wt : Nat → Int32} {n nv d M k : Nat} {vs : Nat → VV} (h : AllM n M vs pt co ro wt) (hn : n ≤ 8) (hnv : nv ≤ 6) (hk : k < 7) (hsa : ∀ j, n ≤ j → sa j = 0) : countL (saS kd nu gl rn n d sa) rn vs n nv d k = countM (sdM kd nu gl rn n d sd) pt co rn wt n nv d k := by
  have e1 : sumN (fun v => (vs v).2.1) nv = sumN pt nv := sumN_congr nv (fun v hv => (h v (by omega)).2.1.1)
  have e2 : sumN (fun v => (vs v).2.2.1) nv = sumN co nv := sumN_congr nv (fun v hv => (h v (by omega)).2.1.2.1)
  have e3 : sumN (fun v => b2i (decide (0 < leadV (saS kd nu gl rn n d sa) (vs v)))) nv = guessM (sdM kd nu gl rn n d sd) wt n nv := sumN_congr nv (fun v hv => by
    unfold leadV
    rw [lead_lean kd nu gl rn (sd := sd) hn hsa (h v (by omega)).2.1.2.2.2])
  unfold countL countM covL
  rw [e1, e2, e3]
  rcases (show k = 0 ∨ k = 1 ∨ k = 2 ∨ k = 3 ∨ k = 4 ∨ k = 5 ∨ k = 6 by omega) with rfl | rfl | rfl | rfl | rfl | rfl | rfl <;> rfl
theorem AllM.weigh {pt co ro wt : Nat → Int32} {n M u j : Nat} {w : Int32} {vs : Nat → VV} (h : AllM n M vs pt co ro wt) (hj : j < n) (hn : n ≤ 8) : AllM n M (fun z => if z = u then setW (vs u) (upd (vs u).2.2.2.2 j w) else vs z) pt co ro (upd wt (8 * u + j) w) := fun v hv => by
  obtain ⟨a, ⟨b1, b2, b3, b4⟩, c, e⟩ := h v hv
  have hu : ∀ i, n ≤ i → i < 8 → upd wt (8 * u + j) w (8 * v + i) = 20 := fun i h1 h2 => by rw [upd_ne (by omega)]; exact e i h1 h2
  dsimp only
  by_cases q : v = u
  · subst q
    rw [if_pos rfl]
    refine ⟨a, ⟨b1, b2, b3, fun i hi => ?_⟩, c, hu⟩
    show upd (vs v).2.2.2.2 j w i = upd wt (8 * v + j) w (8 * v + i)
    unfold upd
    by_cases z : i = j
    · rw [if_pos z, if_pos (by omega)]
    · rw [if_neg z, if_neg (by omega)]; exact b4 i hi
  · rw [if_neg q]
    exact ⟨a, ⟨b1, b2, b3, fun i hi => by show _ = upd wt (8 * u + j) w (8 * v + i); rw [upd_ne (by omega)]; exact b4 i hi⟩, c, hu⟩
theorem coin5 {c : Nat} (hc : c < 2 ^ 30) (h : ¬ nI c < (5 : Int32)) : 5 ≤ c ∧ nI c - 5 = nI (c - 5) := by
  have h1 : ¬ c < 5 := fun z => h ((nI_ltI (a := c) (b := 5) (by omega) (by omega)).mpr z)
  exact ⟨by omega, pk_sub (a := c) (b := 5) (by omega)⟩
theorem AllM.share {pt co ro wt : Nat → Int32} {n M u w : Nat} {vs : Nat → VV} (h : AllM n M vs pt co ro wt) (hu : u < 6) (hw : w < 6) (hne : u ≠ w) (h5 : ¬ co u < 5) (hM : M < 2 ^ 30) (hn : n ≤ 8) : AllM n (M + 5) (fun z => if z = u then buyU (vs u) (vs w) else if z = w then buyW (vs w) else vs z) pt (upd (upd co u (co u - 5)) w (co w + 5)) ro (rowN (fun j x => (x + wt (8 * w + j)) / 2) wt u n) := fun v hv => by
  obtain ⟨a, ⟨b1, b2, b3, b4⟩, ⟨c0, hc0, ec⟩, e⟩ := h v hv
  obtain ⟨aw, ⟨w1, w2, w3, w4⟩, ⟨cw, hcw, ecw⟩, ew⟩ := h w hw
  have h20 : ∀ i, n ≤ i → i < 8 → rowN (fun j x => (x + wt (8 * w + j)) / 2) wt u n (8 * v + i) = 20 := fun i h1 h2 => by
    unfold rowN
    rw [if_neg (fun z => by omega)]
    exact e i h1 h2
  dsimp only
  by_cases q : v = u
  · subst q
    rw [if_pos rfl]
    obtain ⟨z1, z2⟩ := coin5 (c := c0) (by omega) (by rw [← ec]; exact h5)
    refine ⟨a, ⟨b1, ?_, b3, fun i hi => ?_⟩, ⟨c0 - 5, by omega, ?_⟩, h20⟩
    · show (vs v).2.2.1 - 5 = upd (upd co v (co v - 5)) w (co w + 5) v
      rw [upd_ne hne, upd_eq, b2]
    · show mapN (fun j x => (x + (vs w).2.2.2.2 j) / 2) (vs v).2.2.2.2 8 i = rowN _ wt v n (8 * v + i)
      rw [mapN_lt hi, b4 i hi, w4 i hi]
      unfold rowN
      have e1 : (8 * v + i) / 8 = v := by omega
      have e2 : (8 * v + i) % 8 = i := by omega
      rw [e1, e2]
      by_cases z : i < n
      · rw [if_pos ⟨rfl, z⟩]
      · rw [if_neg (fun y => z y.2)]
        show (wt (8 * v + i) + wt (8 * w + i)) / 2 = wt (8 * v + i)
        rw [e i (by omega) hi, ew i (by omega) hi]
        decide
    · show upd (upd co v (co v - 5)) w (co w + 5) v = _
      rw [upd_ne hne, upd_eq, ec, z2]
  · rw [if_neg q]
    by_cases q2 : v = w
    · subst q2
      rw [if_pos rfl]
      refine ⟨a, ⟨b1, ?_, b3, fun i hi => ?_⟩, ⟨c0 + 5, by omega, ?_⟩, h20⟩
      · show (vs v).2.2.1 + 5 = upd (upd co u (co u - 5)) v (co v + 5) v
        rw [upd_eq, b2]
      · show (vs v).2.2.2.2 i = rowN _ wt u n (8 * v + i)
        rw [rowN_ne _ _ hne (by omega)]; exact b4 i hi
      · rw [upd_eq, ec]; exact nI_add c0 5
    · rw [if_neg q2]
      refine ⟨a, ⟨b1, ?_, b3, fun i hi => ?_⟩, ⟨c0, by omega, ?_⟩, h20⟩
      · rw [upd_ne q2, upd_ne q]; exact b2
      · show _ = rowN (fun j x => (x + wt (8 * w + j)) / 2) wt u n (8 * v + i)
        rw [rowN_ne _ _ (Ne.symm q) (by omega)]; exact b4 i hi
      · rw [upd_ne q2, upd_ne q]; exact ec
/-- what would be: the row of copies -/
theorem foresee_eq {kd nu gl rn sa sd pt co ro wt : Nat → Int32} {n nv d M k w : Nat} {ht : Int32} {vs tvs : Nat → VV} (h : AllM n M vs pt co ro wt) (hn : n ≤ 8) (hnv : nv ≤ 6) (hrn : ∀ k, k < 12 → ∃ b, rn k = b2i b) (hsa : ∀ j, n ≤ j → sa j = 0) (hM : M + 5 * k < 2 ^ 30) (hw1 : 3 ≤ w) (hw2 : w ≤ 5) :
    covL (saS kd nu gl rn n (d + k) (itL kd nu gl rn n nv d (sa, cpV vs tvs nv) k).1) (itL kd nu gl rn n nv d (sa, cpV vs tvs nv) k).2 nv w = countM (sdM kd nu gl rn n (itM kd nu gl rn n nv (sd, d, ht, pt, co, ro, wt) k).2.1 (itM kd nu gl rn n nv (sd, d, ht, pt, co, ro, wt) k).1) (itM kd nu gl rn n nv (sd, d, ht, pt, co, ro, wt) k).2.2.2.1 (itM kd nu gl rn n nv (sd, d, ht, pt, co, ro, wt) k).2.2.2.2.1 rn (itM kd nu gl rn n nv (sd, d, ht, pt, co, ro, wt) k).2.2.2.2.2.2 n nv (itM kd nu gl rn n nv (sd, d, ht, pt, co, ro, wt) k).2.1 w := by
  have key : ∀ v, v < nv → VilM ((itL kd nu gl rn n nv d (sa, cpV vs tvs nv) k).2 v) ((itM kd nu gl rn n nv (sd, d, ht, pt, co, ro, wt) k).2.2.2.1 v) ((itM kd nu gl rn n nv (sd, d, ht, pt, co, ro, wt) k).2.2.2.2.1 v) ((itM kd nu gl rn n nv (sd, d, ht, pt, co, ro, wt) k).2.2.2.2.2.1 v) (fun j => (itM kd nu gl rn n nv (sd, d, ht, pt, co, ro, wt) k).2.2.2.2.2.2 (8 * v + j)) := fun v hv => by
    obtain ⟨a, b, ⟨c0, hc0, ec⟩, e⟩ := h v (by omega)
    rw [itL_2 _ _ _ _ _ _ _ _ _ hv, show cpV vs tvs nv v = vs v from if_pos hv]
    exact (VilM.days (kd := kd) (nu := nu) (gl := gl) (rn := rn) (sa := sa) (X := (sd, d, ht, pt, co, ro, wt)) b ec hn hv hrn hsa k (by omega)).1
  have ed := itM_d kd nu gl rn n nv (sd, d, ht, pt, co, ro, wt) k
  rw [ed, itL_1]
  have e1 : sumN (fun v => ((itL kd nu gl rn n nv d (sa, cpV vs tvs nv) k).2 v).2.1) nv = sumN (itM kd nu gl rn n nv (sd, d, ht, pt, co, ro, wt) k).2.2.2.1 nv := sumN_congr nv (fun v hv => (key v hv).1)
  have e2 : sumN (fun v => ((itL kd nu gl rn n nv d (sa, cpV vs tvs nv) k).2 v).2.2.1) nv = sumN (itM kd nu gl rn n nv (sd, d, ht, pt, co, ro, wt) k).2.2.2.2.1 nv := sumN_congr nv (fun v hv => (key v hv).2.1)
  have e3 : sumN (fun v => b2i (decide (0 < leadV (saS kd nu gl rn n (d + k) sa) ((itL kd nu gl rn n nv d (sa, cpV vs tvs nv) k).2 v)))) nv = guessM (sdM kd nu gl rn n (d + k) (itM kd nu gl rn n nv (sd, d, ht, pt, co, ro, wt) k).1) (itM kd nu gl rn n nv (sd, d, ht, pt, co, ro, wt) k).2.2.2.2.2.2 n nv := sumN_congr nv (fun v hv => by
    unfold leadV
    rw [lead_lean kd nu gl rn (sd := (itM kd nu gl rn n nv (sd, d, ht, pt, co, ro, wt) k).1) hn hsa (key v hv).2.2.2])
  unfold covL countM
  rw [e1, e2, e3]
  rcases (show w = 3 ∨ w = 4 ∨ w = 5 by omega) with rfl | rfl | rfl <;> rfl
theorem overtakes_eq {kd nu gl rn sa sd pt co ro wt : Nat → Int32} {n nv d M u w k : Nat} {ht : Int32} {vs tvs : Nat → VV} (h : AllM n M vs pt co ro wt) (hn : n ≤ 8) (hnv : nv ≤ 6) (hrn : ∀ k, k < 12 → ∃ b, rn k = b2i b) (hsa : ∀ j, n ≤ j → sa j = 0) (hM : M + 5 * k < 2 ^ 30) (hu : u < nv) (hw : w < nv) :
    ahT kd nu gl rn n d (sa, twoV tvs (vs u) (vs w)) k = ahM kd nu gl rn n nv (sd, d, ht, pt, co, ro, wt) u w k := by
  have key : ∀ v i, v < nv → i < 2 → twoV tvs (vs u) (vs w) i = vs v → VilM ((itL kd nu gl rn n 2 d (sa, twoV tvs (vs u) (vs w)) k).2 i) ((itM kd nu gl rn n nv (sd, d, ht, pt, co, ro, wt) k).2.2.2.1 v) ((itM kd nu gl rn n nv (sd, d, ht, pt, co, ro, wt) k).2.2.2.2.1 v) ((itM kd nu gl rn n nv (sd, d, ht, pt, co, ro, wt) k).2.2.2.2.2.1 v) (fun j => (itM kd nu gl rn n nv (sd, d, ht, pt, co, ro, wt) k).2.2.2.2.2.2 (8 * v + j)) ∧ ((itL kd nu gl rn n 2 d (sa, twoV tvs (vs u) (vs w)) k).2 i).1 = nI v := fun v i hv hi e0 => by
    obtain ⟨a, b, ⟨c0, hc0, ec⟩, e⟩ := h v (by omega)
    rw [itL_2 _ _ _ _ _ _ _ _ _ hi, e0]
    exact ⟨(VilM.days (kd := kd) (nu := nu) (gl := gl) (rn := rn) (sa := sa) (X := (sd, d, ht, pt, co, ro, wt)) b ec hn hv hrn hsa k (by omega)).1, (itV_1 _ _ _ _ _ _ _ _ k).trans a⟩
  obtain ⟨⟨a1, a2, -, -⟩, a3⟩ := key u 0 hu (by omega) rfl
  obtain ⟨⟨b1, b2, -, -⟩, b3⟩ := key w 1 hw (by omega) rfl
  unfold ahT aheadV ahM
  rw [a1, a2, a3, b1, b2, b3]
theorem advF_congr {P P2 : Nat → Int32} : ∀ n, (∀ t, t ≤ n → P t = P2 t) → advF P n = advF P2 n
  | 0, h => by unfold advF; rw [h 0 (by omega)]
  | n + 1, h => by
    unfold advF
    rw [advF_congr n (fun t ht => h t (by omega)), h (n + 1) (by omega)]
theorem advise_eq {kd nu gl rn sa pt co ro wt : Nat → Int32} {n nv d M u k : Nat} {ht : Int32} {vs tvs : Nat → VV} (h : AllM n M vs pt co ro wt) (hn : n ≤ 8) (hnv : nv ≤ 6) (hrn : ∀ k, k < 12 → ∃ b, rn k = b2i b) (hsa : ∀ j, n ≤ j → sa j = 0) (hM : M + 5 * k < 2 ^ 30) (hu : u < nv) :
    advF (fun t => ((itL kd nu gl rn n (n + 1) d (sa, adV (vs u) tvs n n) k).2 t).2.1) n = advF (advP kd nu gl rn n nv d ht pt co ro wt u k) n := by
  refine advF_congr n (fun t ht0 => ?_)
  obtain ⟨a, ⟨b1, b2, b3, b4⟩, ⟨c0, hc0, ec⟩, e⟩ := h u (by omega)
  rw [itL_2 _ _ _ _ _ _ _ _ _ (show t < n + 1 by omega)]
  unfold advP
  refine (VilM.days (kd := kd) (nu := nu) (gl := gl) (rn := rn) (sa := sa) (X := (fun _ => 0, d, ht, pt, co, ro, if t = 0 then wt else upd wt (8 * u + (t - 1)) 0)) ?_ ec hn hu hrn hsa k (by omega)).1.1
  unfold adV
  by_cases z : t = 0
  · rw [if_pos z, if_pos z]
    exact ⟨b1, b2, b3, b4⟩
  · rw [if_neg z, if_neg z, if_pos ht0]
    refine ⟨b1, b2, b3, fun i hi => ?_⟩
    show upd (vs u).2.2.2.2 (t - 1) 0 i = upd wt (8 * u + (t - 1)) 0 (8 * u + i)
    unfold upd
    by_cases y : i = t - 1
    · rw [if_pos y, if_pos (by omega)]
    · rw [if_neg y, if_neg (by omega)]; exact b4 i hi
theorem sum_b2i (B : Nat → Bool) : ∀ n, ∃ c, c ≤ n ∧ sumN (fun j => b2i (B j)) n = nI c
  | 0 => ⟨0, by omega, rfl⟩
  | n + 1 => by
    obtain ⟨c, hc, e⟩ := sum_b2i B n
    show ∃ c, c ≤ n + 1 ∧ sumN _ n + b2i (B n) = nI c
    rw [e]
    cases B n
    · exact ⟨c, by omega, Int32.add_zero _⟩
    · exact ⟨c + 1, by omega, nI_1 c⟩
theorem best_eq {r : Nat → Int32} (hr : ∀ i, ∃ c, c ≤ 12 ∧ r i = nI c) : ∀ n, (n = 0 ∧ bestL r n = (-1, -1) ∧ bestO r n = none) ∨ ∃ b, bestO r n = some b ∧ bestL r n = (r b, nI b)
  | 0 => Or.inl ⟨rfl, rfl, rfl⟩
  | n + 1 => by
    right
    rcases best_eq hr n with ⟨rfl, e1, e2⟩ | ⟨b, e1, e2⟩
    · refine ⟨0, (bestO_n e2).symm, ?_⟩
      obtain ⟨c, hc, e⟩ := hr 0
      have hlt : (-1 : Int32) < r 0 := by
        rw [e, Int32.lt_iff_toInt_lt, nI_toInt (by omega)]
        have : (-1 : Int32).toInt = -1 := by decide
        omega
      show (if (bestL r 0).1 < r 0 then (r 0, nI 0) else bestL r 0) = _
      rw [e1, if_pos hlt]
    · by_cases q : r b < r n
      · refine ⟨n, (bestO_y e1 q).symm, ?_⟩
        show (if (bestL r n).1 < r n then (r n, nI n) else bestL r n) = _
        rw [e2, if_pos q]
      · refine ⟨b, (bestO_k e1 q).symm, ?_⟩
        show (if (bestL r n).1 < r n then (r n, nI n) else bestL r n) = _
        rw [e2, if_neg q]
theorem best_opt (kd nu gl rn : Nat → Int32) (n : Nat) : (bestL (fun j => rightN (kd j) (nu j) gl rn 12) n).2 = optI (bestO (fun j => rightN (kd j) (nu j) gl rn 12) n) := by
  rcases best_eq (r := fun j => rightN (kd j) (nu j) gl rn 12) (fun i => sum_b2i _ 12) n with ⟨-, e1, e2⟩ | ⟨b, e1, e2⟩
  · rw [e1, e2]; rfl
  · rw [e1, e2]; rfl
theorem dgN_congr {w w2 : Nat → Int32} {d : Int64} : ∀ n, (∀ j, j < n → w j = w2 j) → dgN w d n = dgN w2 d n
  | 0, _ => rfl
  | n + 1, h => by unfold dgN; rw [dgN_congr n (fun j hj => h j (by omega)), h n (by omega)]
theorem dgS_congr {w w2 : Nat → Nat → Int32} {m : Nat} {d : Int64} : ∀ n, (∀ i, i < n → ∀ j, j < m → w i j = w2 i j) → dgS w m d n = dgS w2 m d n
  | 0, _ => rfl
  | n + 1, h => by unfold dgS; rw [dgS_congr n (fun i hi => h i (by omega))]; exact dgN_congr m (fun j hj => h n (by omega) j hj)
theorem dgV_congr {w w2 u u2 : Nat → Nat → Int32} {n : Nat} {d : Int64} : ∀ m, (∀ i, i < m → ∀ j, j < 7 → w i j = w2 i j) → (∀ i, i < m → ∀ j, j < n → u i j = u2 i j) → dgV w u n d m = dgV w2 u2 n d m
  | 0, _, _ => rfl
  | m + 1, h, k => by
    unfold dgV
    rw [dgV_congr m (fun i hi => h i (by omega)) (fun i hi => k i (by omega)), dgN_congr 7 (fun j hj => h m (by omega) j hj)]
    exact dgN_congr n (fun j hj => k m (by omega) j hj)
theorem digest_eq {kd nu gl rn sa sd pt co ro wt : Nat → Int32} {n nv d M : Nat} {vs : Nat → VV} (h : AllM n M vs pt co ro wt) (hn : n ≤ 8) (hnv : nv ≤ 6) (hsa : ∀ j, n ≤ j → sa j = 0) :
    digL (fun k => countL (saS kd nu gl rn n d sa) rn vs n nv d k) gl rn (fun z k => toldL kd nu gl rn vs nv z k) n (fun v k => aboutL (saS kd nu gl rn n d sa) vs n nv v k) (fun v k => (vs v).2.2.2.2 k) nv = digL (fun k => countM (sdM kd nu gl rn n d sd) pt co rn wt n nv d k) gl rn (fun z k => toldM kd nu gl rn wt nv z k) n (fun v k => aboutM (sdM kd nu gl rn n d sd) pt co ro wt n nv v k) (fun v k => wt (8 * v + k)) nv := by
  unfold digL
  rw [dgN_congr 7 (fun k hk => count_eq (sd := sd) h hn hnv hk hsa), dgS_congr n (fun z hz k _ => told_eq h hnv (by omega))]
  exact dgV_congr nv (fun v hv k _ => about_eq h hn hnv (by omega) hsa) (fun v hv k hk => (h v (by omega)).2.1.2.2.2 k (by omega))
theorem mean_eq {pt co ro wt : Nat → Int32} {n nv M : Nat} {vs : Nat → VV} (h : AllM n M vs pt co ro wt) (hnv : nv ≤ 6) : sumN (fun v => (vs v).2.1) nv = sumN pt nv := sumN_congr nv (fun v hv => (h v (by omega)).2.1.1)
