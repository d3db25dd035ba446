/-! ===== a day: by hand and by the class is the same ===== -/
theorem sumN_cg {w w2 : Nat → Int32} : ∀ {n : Nat}, (∀ j, j < n → w j = w2 j) → sumN w n = sumN w2 n
  | 0, _ => rfl
  | n + 1, h => by
    show sumN w n + w n = sumN w2 n + w2 n
    rw [sumN_cg (fun j hj => h j (by omega)), h n (by omega)]
theorem sumN_more {w : Nat → Int32} {n : Nat} : ∀ {k : Nat}, (∀ j, n ≤ j → j < n + k → w j = 0) → sumN w (n + k) = sumN w n
  | 0, _ => rfl
  | k + 1, h => by
    show sumN w (n + k) + w (n + k) = sumN w n
    rw [sumN_more (fun j h1 h2 => h j h1 (by omega)), h (n + k) (by omega) (by omega), Int32.add_zero]
theorem lead_8 {o : OB} {d : Nat} {w : Nat → Int32} (h : o.n ≤ 8) : leadN (sgO o d) w 8 = leadN (fun j => truth (sayB (o.kd j) (o.nu j) o.gl o.rn d)) w o.n := by
  unfold leadN
  rw [show 8 = o.n + (8 - o.n) by omega, sumN_more (fun j h1 _ => by rw [sgO_ge h1, Int32.zero_mul])]
  exact sumN_cg (fun j hj => by rw [sgO_lt hj])
theorem lead_n {o : OB} {d n : Nat} {w : Nat → Int32} (h : n ≤ o.n) : leadN (fun j => truth (sayB (o.kd j) (o.nu j) o.gl o.rn d)) w n = leadN (sgO o d) w n := sumN_cg (fun j hj => by rw [sgO_lt (by omega)])
theorem hitM_V {o : OB} (h : o.n ≤ 8) (V : VV) (rb : Bool) : hitM (fun j => truth (sayB (o.kd j) (o.nu j) o.gl o.rn o.d)) rb o.n V = hitV (sgO o o.d) rb V := by
  unfold hitM hitV
  rw [lead_8 h]
theorem w_all : ∀ k, k < 101 → (if nI k = 100 then (100 : Int32) else nI k + 1) = (if 100 < nI k + 1 then 100 else nI k + 1) ∧ 3 * nI k / 4 = nI k - (nI k + 3) / 4 := by decide +kernel
theorem w_nxt : ∀ k, k < 101 → ((if 100 < nI k + 1 then (100 : Int32) else nI k + 1) = nI (min 100 (k + 1)) ∧ min 100 (k + 1) < 101) ∧ nI k - (nI k + 3) / 4 = nI (3 * k / 4) ∧ 3 * k / 4 < 101 := by decide +kernel
theorem tr_ne {b rb : Bool} (h : ¬ truth b = truth rb) : truth b = -truth rb := by
  cases b <;> cases rb <;> first | exact absurd rfl h | rfl
theorem lrn_eq {b rb : Bool} {w : Int32} (h : ∃ k : Nat, k ≤ 100 ∧ w = nI k) : (if truth b = truth rb then (if w = 100 then (100 : Int32) else w + 1) else 3 * w / 4) = learn1 (truth rb) (truth b) w := by
  obtain ⟨k, hk, rfl⟩ := h
  unfold learn1
  by_cases e : truth b = truth rb
  · rw [if_pos e, if_pos e, (w_all k (by omega)).1]
  · rw [if_neg e, if_neg e, if_pos (tr_ne e), (w_all k (by omega)).2]
theorem lrn_z {rb : Bool} {w : Int32} : learn1 (truth rb) 0 w = w := by
  unfold learn1
  cases rb <;> rfl
theorem sel_eq {co : Int32} {r : Nat} (hr : r < 2 ^ 30) : selM (nI r) co = sell1 (nI r) co := by
  unfold selM sell1
  by_cases h : r = 0
  · subst h
    rw [if_pos (show nI 0 = 0 from rfl), if_pos (show nI 0 < 1 by decide)]
    by_cases k : co ≤ 0
    · rw [if_pos k, if_pos k, Int32.sub_zero]
    · rw [if_neg k, if_neg k]
  · rw [if_neg (nI_ne0 (by omega) (by omega)), if_neg (show ¬ nI r < 1 from nI_nlt (a := r) (b := 1) (by omega) (by omega))]
    by_cases k : r ≤ 5
    · rw [if_pos (show nI r ≤ 5 from nI_le (a := r) (b := 5) k (by omega)), if_neg (show ¬ (5 : Int32) < nI r from nI_nlt (a := 5) (b := r) k (by omega))]
    · rw [if_neg (show ¬ nI r ≤ 5 from nI_ge (a := 5) (b := r) (by omega) (by omega)), if_pos (show (5 : Int32) < nI r from nI_lt (a := 5) (b := r) (by omega) (by omega))]
/-- a village's next row of hits -/
theorem row_n {b : Bool} {r : Nat} : (if b then nI r + 1 else 0) = nI (if b then r + 1 else 0) := by
  cases b
  · rfl
  · exact nI_1 r
theorem pts_n {b : Bool} {p : Nat} : nI p + b2i b = nI (p + if b then 1 else 0) := by
  cases b
  · exact Int32.add_zero _
  · exact nI_1 p
theorem sell_n {r c : Nat} (hr : r < 2 ^ 30) (hc : c < 2 ^ 30) : ∃ c2 : Nat, c2 ≤ c + 5 ∧ sell1 (nI r) (nI c) = nI c2 ∧ (r = 0 → c2 = c - 1) ∧ (r ≠ 0 → c2 = c + min 5 r) := by
  unfold sell1
  by_cases h : r = 0
  · subst h
    rw [if_pos (by decide)]
    by_cases k : c = 0
    · subst k
      exact ⟨0, by omega, by rw [if_pos (by decide)], fun _ => rfl, fun z => absurd rfl z⟩
    · refine ⟨c - 1, by omega, ?_, fun _ => rfl, fun z => absurd rfl z⟩
      rw [if_neg (show ¬ nI c ≤ 0 from nI_nle (by omega) (by omega))]
      exact pk_sub (a := c) (b := 1) (by omega)
  · rw [if_neg (show ¬ nI r < 1 from nI_nlt (a := r) (b := 1) (by omega) (by omega))]
    by_cases k : r ≤ 5
    · rw [if_neg (show ¬ (5 : Int32) < nI r from nI_nlt (a := 5) (b := r) k (by omega))]
      exact ⟨c + r, by omega, nI_add c r, fun z => absurd z h, fun _ => by omega⟩
    · rw [if_pos (show (5 : Int32) < nI r from nI_lt (a := 5) (b := r) (by omega) (by omega))]
      exact ⟨c + 5, by omega, nI_add c 5, fun z => absurd z h, fun _ => by omega⟩
theorem lrn_ok {b rb : Bool} {w : Int32} (h : ∃ k : Nat, k ≤ 100 ∧ w = nI k) : ∃ k : Nat, k ≤ 100 ∧ learn1 (truth rb) (truth b) w = nI k := by
  obtain ⟨k, hk, rfl⟩ := h
  obtain ⟨⟨a1, a2⟩, a3, a4⟩ := w_nxt k (by omega)
  unfold learn1
  by_cases e : truth b = truth rb
  · rw [if_pos e]; exact ⟨_, by omega, a1⟩
  · rw [if_neg e, if_pos (tr_ne e)]; exact ⟨_, by omega, a3⟩
theorem OkV.step {M v : Nat} {V : VV} {o : OB} (h : OkV M v V) (hM : M < 2 ^ 29) (hn : o.n ≤ 8) (d : Nat) (rb : Bool) : OkV (M + 5) v (stepV (sgO o d) rb V) := by
  obtain ⟨h1, p, c, r, a1, a2, a3, e1, e2, e3, e4⟩ := h
  have hrow : (if hitB (leadN (sgO o d) V.2.2.2.2 8) rb then V.2.2.2.1 + 1 else 0) = nI (if hitB (leadN (sgO o d) V.2.2.2.2 8) rb then r + 1 else 0) := by rw [e3]; exact row_n
  generalize hb : hitB (leadN (sgO o d) V.2.2.2.2 8) rb = b at hrow
  obtain ⟨c2, b1, b2, -⟩ := sell_n (r := if b then r + 1 else 0) (c := c) (by cases b <;> simp <;> omega) (by omega)
  refine ⟨h1, p + (if b then 1 else 0), c2, (if b then r + 1 else 0), by cases b <;> simp <;> omega, by omega, by cases b <;> simp <;> omega, ?_, ?_, ?_, fun j hj => ?_⟩
  · show V.2.1 + b2i (hitB (leadN (sgO o d) V.2.2.2.2 8) rb) = _
    rw [hb, e1]; exact pts_n
  · show sell1 (if hitB (leadN (sgO o d) V.2.2.2.2 8) rb then V.2.2.2.1 + 1 else 0) V.2.2.1 = _
    rw [hb, hrow, e2]; exact b2
  · show (if hitB (leadN (sgO o d) V.2.2.2.2 8) rb then V.2.2.2.1 + 1 else 0) = _
    rw [hb]; exact hrow
  · show ∃ w : Nat, w ≤ 100 ∧ mapN (fun j w => learn1 (truth rb) (sgO o d j) w) V.2.2.2.2 8 j = nI w
    rw [mapN_lt hj]
    by_cases k : j < o.n
    · rw [sgO_lt k]; exact lrn_ok (e4 j hj)
    · rw [sgO_ge (by omega), lrn_z]; exact e4 j hj
theorem OkO.day {M : Nat} {o : OB} (h : OkO M o) (hM : M < 2 ^ 29) : OkO (M + 5) (dayO o) := by
  refine ⟨h.hn, h.hnv, by have := h.hd; show o.d + 1 ≤ M + 5; omega, h.hrn, h.hnu, fun v hv => ?_, h.hgl, fun v h1 h2 => ?_⟩
  · show OkV (M + 5) v (mapV _ o.vs o.nv v)
    unfold mapV
    by_cases k : v < o.nv
    · rw [if_pos k]; exact (h.hV v hv).step hM h.hn _ _
    · rw [if_neg k]; exact (h.hV v hv).mono (by omega)
  · show NewV (mapV _ o.vs o.nv v)
    unfold mapV
    rw [if_neg (show ¬ v < o.nv from Nat.not_lt.mpr h1)]
    exact h.hW v h1 h2
theorem OkO.it {M : Nat} {o : OB} (h : OkO M o) : ∀ k, M + 5 * k < 2 ^ 29 → OkO (M + 5 * k) (itO o k)
  | 0, _ => h
  | k + 1, hk => by
    have := (OkO.it h k (by omega)).day (by omega)
    exact this.mono (by omega)
/-- what the day by hand leaves is the class's day -/
theorem day_V {M : Nat} {o : OB} (h : OkO M o) (hM : M < 2 ^ 29) {v : Nat} (hv : v < o.nv) (rb : Bool) : (∀ q, q < 3 → vr3 (mapV st3 (mapV (st1 (fun j => truth (sayB (o.kd j) (o.nu j) o.gl o.rn o.d)) rb o.n) o.vs o.nv) o.nv v) q = vr3 (mapV (stepV (sgO o o.d) rb) o.vs o.nv v) q) ∧ ∀ q, q < 8 → (mapV (st2 (fun j => truth (sayB (o.kd j) (o.nu j) o.gl o.rn o.d)) rb o.n) o.vs o.nv v).2.2.2.2 q = (mapV (stepV (sgO o o.d) rb) o.vs o.nv v).2.2.2.2 q := by
  obtain ⟨h1, p, c, r, a1, a2, a3, e1, e2, e3, e4⟩ := h.hV v (by have := h.hnv; omega)
  rw [mapV_lt hv, mapV_lt hv, mapV_lt hv, mapV_lt hv]
  have hh := hitM_V h.hn (o.vs v) rb
  refine ⟨q3 ?_ ?_ ?_, fun q hq => ?_⟩
  · show (o.vs v).2.1 + b2i (hitM _ rb o.n (o.vs v)) = (o.vs v).2.1 + b2i (hitV (sgO o o.d) rb (o.vs v))
    rw [hh]
  · show selM (if hitM _ rb o.n (o.vs v) then (o.vs v).2.2.2.1 + 1 else 0) (o.vs v).2.2.1 = sell1 (if hitV (sgO o o.d) rb (o.vs v) then (o.vs v).2.2.2.1 + 1 else 0) (o.vs v).2.2.1
    rw [hh, e3, row_n]
    generalize hitV (sgO o o.d) rb (o.vs v) = b
    exact sel_eq (by cases b <;> simp <;> omega)
  · show (if hitM _ rb o.n (o.vs v) then (o.vs v).2.2.2.1 + 1 else 0) = (if hitV (sgO o o.d) rb (o.vs v) then (o.vs v).2.2.2.1 + 1 else 0)
    rw [hh]
  · show mapN (lrnM _ rb) (o.vs v).2.2.2.2 o.n q = mapN (fun j w => learn1 (truth rb) (sgO o o.d j) w) (o.vs v).2.2.2.2 8 q
    rw [mapN_lt hq]
    by_cases k : q < o.n
    · rw [mapN_lt k, sgO_lt k]
      exact lrn_eq (e4 q hq)
    · rw [sgO_ge (by omega), lrn_z]
      exact if_neg k
theorem sim_day {M : Nat} {b : SmA} {g : GG} {L : List Nat} {f f2 : Nat → va_E} {o : OB} {r : Int32} (h : SimO b g L f o) (hok : OkO M o) (hM : M < 2 ^ 29)
    (hp : r = sumN (fun v => b2i (hitM (fun j => truth (sayB (o.kd j) (o.nu j) o.gl o.rn o.d)) (rbB o.rn o.d) o.n (o.vs v))) o.nv ∧ f2 b.sm = eS (o.d + 1) b.sg b.sr b.ss b.sv b.sw ∧ f2 b.sg = eI g 12 o.gl ∧ f2 b.sr = eZ g 12 o.rn ∧ f2 b.ss = eR g o.n (vilR b.fs o.n) ∧ f2 b.sv = eR g o.nv (vilR b.fv o.nv) ∧ f2 b.sw = eR g o.nv (vilR b.fw o.nv) ∧ RowsB g L f2 2 o.n b.fs (fun j => pr2 (o.kd j) (o.nu j)) ∧ RowsB g L f2 3 o.nv b.fv (fun v => vr3 (mapV st3 (mapV (st1 (fun j => truth (sayB (o.kd j) (o.nu j) o.gl o.rn o.d)) (rbB o.rn o.d) o.n) o.vs o.nv) o.nv v)) ∧ RowsB g L f2 8 o.nv b.fw (fun v => (mapV (st2 (fun j => truth (sayB (o.kd j) (o.nu j) o.gl o.rn o.d)) (rbB o.rn o.d) o.n) o.vs o.nv v).2.2.2.2)) : r = hitsO o ∧ SimO b g L f2 (dayO o) := by
  obtain ⟨hr, h1, h2, h3, h4, h5, h6, h7, h8, h9⟩ := hp
  refine ⟨?_, h.L_sm, h1, h.L_sg, h2, h.L_sr, h3, h.L_ss, h4, h.L_sv, h5, h.L_sw, h6, h7, h8.cg (fun j hj q hq => (day_V hok hM hj _).1 q hq), h9.cg (fun j hj q hq => (day_V hok hM hj _).2 q hq), h.hIv, h.hIw, h.hgr⟩
  rw [hr]
  exact sumN_cg (fun v _ => by rw [hitM_V hok.hn])
