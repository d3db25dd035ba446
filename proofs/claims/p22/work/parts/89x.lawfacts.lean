/-! ===== facts that the law asks for ===== -/
theorem say_924 {k n : Int32} {gl rn : Nat → Int32} {d : Nat} (hd : d < 2 ^ 29) : sayB k n gl rn (d % 924) = sayB k n gl rn d := by
  have e1 : d % 924 % 12 = d % 12 := by omega
  have e2 : (d % 924 + 11) % 12 = (d + 11) % 12 := by omega
  have a1 : nI (d % 924) - nI (d % 924) / 7 * 7 = nI (d % 924 % 7) := pk_rem (a := d % 924) (d := 7) (by omega) (by decide) (by decide)
  have a2 : nI d - nI d / 7 * 7 = nI (d % 7) := pk_rem (a := d) (d := 7) (by omega) (by decide) (by decide)
  have e3 : nI (d % 924) - nI (d % 924) / 7 * 7 = nI d - nI d / 7 * 7 := by
    rw [a1, a2, show d % 924 % 7 = d % 7 by omega]
  unfold sayB
  rw [e1, e2, e3]
section LF
variable {M : Nat} {o : OB}
theorem ab0 (h : OkO M o) (hM : M < 2 ^ 29) {v : Nat} (hv : v < 6) : aboutO o v 0 = nI (pO o v) := (h.pn hM hv).2.1
theorem ab1 (h : OkO M o) (hM : M < 2 ^ 29) {v : Nat} (hv : v < 6) : aboutO o v 1 = nI (cO o v) := (h.pn hM hv).2.2.2.1
theorem ab2 (h : OkO M o) (hM : M < 2 ^ 29) {v : Nat} (hv : v < 6) : aboutO o v 2 = nI (rO o v) := (h.pn hM hv).2.2.2.2.2.1
theorem ab_b (h : OkO M o) (hM : M < 2 ^ 29) {v : Nat} (hv : v < 6) : pO o v ≤ M ∧ cO o v ≤ M ∧ rO o v ≤ pO o v := ⟨(h.pn hM hv).2.2.1, (h.pn hM hv).2.2.2.2.1, (h.pn hM hv).2.2.2.2.2.2⟩
theorem ab4 (o : OB) (v : Nat) : aboutO o v 4 = nI (plO o v) := place_pl o v
theorem ab5 (o : OB) (v : Nat) : b2i (decide (0 < aboutO o v 6)) = aboutO o v 5 := rfl
theorem plc_s (h : OkO M o) (hM : M < 2 ^ 29) {v : Nat} (hv : v < o.nv) : nI (bitP o v) ||| ((1 : Int32) <<< (aboutO o v 4 &&& 31)) = nI (bitP o (v + 1)) := by
  have h6 := h.hnv
  rw [ab4]
  have h1 := pl_rng h hM hv
  exact or_n (bitP o v) (bitP_lt v (fun u hu => by have := pl_rng h hM (show u < o.nv by omega); omega)) (plO o v) (by omega)
theorem plc_n (h : OkO M o) (hM : M < 2 ^ 29) : nI (bitP o o.nv) = ((2 : Int32) <<< (nI o.nv &&& 31)) - 2 := by
  have h6 := h.hnv
  rw [bitP_all h hM, sh_n o.nv (by omega)]
theorem tr_mul {b : Bool} {w : Int32} : truth b * w = if b then w else -w := by
  cases b
  · show (-1 : Int32) * w = -w
    rw [Int32.neg_mul, Int32.one_mul]
  · show (1 : Int32) * w = w
    rw [Int32.one_mul]
theorem at_v (h : OkO M o) (hM : M < 2 ^ 29) {v i : Nat} (hv : v < o.nv) (hi : i < o.nv) (hp : placeV o.vs o.nv (o.vs i) = aboutO o v 4) : i = v := by
  have h6 := h.hnv
  rw [place_pl, ab4] at hp
  have h1 := pl_rng h hM hv
  have h2 := pl_rng h hM hi
  exact plO_inj h hM hi hv ((nI_eq (by omega) (by omega)).mp hp)
/-- who stands one place ahead -/
theorem pl_nxt (h : OkO M o) (hM : M < 2 ^ 29) {u w k : Nat} (hu : u < o.nv) (hw : w < o.nv) (e1 : plO o u = k) (e2 : plO o w = k + 1) : pO o w < pO o u ∨ (pO o u = pO o w ∧ (cO o w < cO o u ∨ (cO o u = cO o w ∧ u < w))) := by
  have h6 := h.hnv
  exact (ah_iff h hM (by omega) (by omega)).mp (pl_ah h hM hu hw (by omega))
/-! the day after -/
def hitO (o : OB) (v : Nat) : Bool := hitV (sgO o o.d) (rbB o.rn o.d) (o.vs v)
theorem day_vs {v : Nat} (hv : v < o.nv) : (dayO o).vs v = stepV (sgO o o.d) (rbB o.rn o.d) (o.vs v) := mapV_lt hv
theorem day_0 {v : Nat} (hv : v < o.nv) : aboutO (dayO o) v 0 = aboutO o v 0 + b2i (hitO o v) := by
  show ((dayO o).vs v).2.1 = _
  rw [day_vs hv]
  rfl
theorem day_2 {v : Nat} (hv : v < o.nv) : aboutO (dayO o) v 2 = if hitO o v then aboutO o v 2 + 1 else 0 := by
  show ((dayO o).vs v).2.2.2.1 = _
  rw [day_vs hv]
  rfl
theorem day_1 {v : Nat} (hv : v < o.nv) : aboutO (dayO o) v 1 = sell1 (if hitO o v then aboutO o v 2 + 1 else 0) (aboutO o v 1) := by
  show ((dayO o).vs v).2.2.1 = _
  rw [day_vs hv]
  rfl
theorem day_w {v k : Nat} (hv : v < o.nv) (hk : k < 8) : ((dayO o).vs v).2.2.2.2 k = learn1 (truth (rbB o.rn o.d)) (sgO o o.d k) ((o.vs v).2.2.2.2 k) := by
  rw [day_vs hv]
  exact mapN_lt (F := fun j w => learn1 (truth (rbB o.rn o.d)) (sgO o o.d j) w) (w := (o.vs v).2.2.2.2) hk
theorem day_pts (o : OB) : countO (dayO o) 3 = countO o 3 + hitsO o := by
  show sumN (fun v => ((dayO o).vs v).2.1) o.nv = sumN (fun v => (o.vs v).2.1) o.nv + sumN (fun v => b2i (hitV (sgO o o.d) (rbB o.rn o.d) (o.vs v))) o.nv
  rw [← sumN_add]
  exact sumN_cg (fun v hv => by rw [day_vs hv]; rfl)
theorem cov_c (o : OB) {k : Nat} (h3 : 3 ≤ k) (h5 : k < 6) : countO (dayO o) k = covO (itO o 1) k := by
  rcases (show k = 3 ∨ k = 4 ∨ k = 5 by omega) with rfl | rfl | rfl <;> rfl
theorem w5 (o : OB) (v : Nat) : b2i (decide (aboutO o v 5 = 1)) = aboutO o v 5 := b2i_d _
theorem whit (o : OB) (v : Nat) : b2i (decide (aboutO o v 5 = b2i (rbB o.rn o.d))) = b2i (hitO o v) := by
  show b2i (decide (b2i (decide (0 < leadN (sgO o o.d) (o.vs v).2.2.2.2 8)) = b2i (rbB o.rn o.d))) = b2i (decide (0 < leadN (sgO o o.d) (o.vs v).2.2.2.2 8) == rbB o.rn o.d)
  cases decide (0 < leadN (sgO o o.d) (o.vs v).2.2.2.2 8) <;> cases rbB o.rn o.d <;> decide
/-- coins on the day after a hit -/
theorem more_t (h : OkO M o) (hM : M < 2 ^ 28) {v : Nat} (hv : v < o.nv) (hh : hitO o v = true) {r z : Int32} (hr : r = nI (rO o v + 1)) (hz : z = if r < 5 then r else 5) : aboutO (dayO o) v 1 = aboutO o v 1 + z := by
  have h6 := h.hnv
  have hb := ab_b h (by omega) (show v < 6 by omega)
  rw [day_1 hv, if_pos hh, ab2 h (by omega) (show v < 6 by omega), nI_1]
  subst hr
  subst hz
  unfold sell1
  rw [if_neg (show ¬ nI (rO o v + 1) < 1 from nI_nlt (a := rO o v + 1) (b := 1) (by omega) (by omega))]
  congr 1
  by_cases c : rO o v + 1 < 5
  · rw [if_pos (show nI (rO o v + 1) < 5 from nI_lt (a := rO o v + 1) (b := 5) c (by omega)), if_neg (show ¬ 5 < nI (rO o v + 1) from nI_nlt (a := 5) (b := rO o v + 1) (by omega) (by omega))]
  · rw [if_neg (show ¬ nI (rO o v + 1) < 5 from nI_nlt (a := rO o v + 1) (b := 5) (by omega) (by omega))]
    by_cases d : rO o v + 1 = 5
    · rw [d]; decide
    · rw [if_pos (show 5 < nI (rO o v + 1) from nI_lt (a := 5) (b := rO o v + 1) (by omega) (by omega))]
theorem more_f {v : Nat} (hv : v < o.nv) (hh : hitO o v = false) : aboutO (dayO o) v 1 = if aboutO o v 1 ≤ 0 then aboutO o v 1 else aboutO o v 1 - 1 := by
  rw [day_1 hv, hh]
  rfl
theorem mn_n : ∀ k, k < 101 → (if nI k + 1 < 100 then nI k + 1 else (100 : Int32)) = nI (min 100 (k + 1)) := by decide +kernel
theorem wd_t (h : OkO M o) {v k : Nat} (hv : v < o.nv) (hk : k < o.n) (hb : b2i (sayB (o.kd k) (o.nu k) o.gl o.rn o.d) = b2i (rbB o.rn o.d)) : ((dayO o).vs v).2.2.2.2 k = if (o.vs v).2.2.2.2 k + 1 < 100 then (o.vs v).2.2.2.2 k + 1 else 100 := by
  have hn := h.hn
  have h6 := h.hnv
  obtain ⟨e, hw⟩ := h.wn (show v < 6 by omega) (show k < 8 by omega)
  have eb : sayB (o.kd k) (o.nu k) o.gl o.rn o.d = rbB o.rn o.d := by
    revert hb
    cases sayB (o.kd k) (o.nu k) o.gl o.rn o.d <;> cases rbB o.rn o.d <;> decide
  rw [day_w hv (by omega), sgO_lt hk, eb, e, mn_n _ (by omega)]
  unfold learn1
  rw [if_pos rfl]
  exact (w_nxt _ (by omega)).1.1
theorem wd_f (h : OkO M o) {v k : Nat} (hv : v < o.nv) (hk : k < o.n) (hb : ¬ b2i (sayB (o.kd k) (o.nu k) o.gl o.rn o.d) = b2i (rbB o.rn o.d)) : ((dayO o).vs v).2.2.2.2 k = 3 * (o.vs v).2.2.2.2 k / 4 := by
  have hn := h.hn
  have h6 := h.hnv
  obtain ⟨e, hw⟩ := h.wn (show v < 6 by omega) (show k < 8 by omega)
  have eb : truth (sayB (o.kd k) (o.nu k) o.gl o.rn o.d) = -truth (rbB o.rn o.d) ∧ ¬ truth (sayB (o.kd k) (o.nu k) o.gl o.rn o.d) = truth (rbB o.rn o.d) := by
    revert hb
    cases sayB (o.kd k) (o.nu k) o.gl o.rn o.d <;> cases rbB o.rn o.d <;> decide
  rw [day_w hv (by omega), sgO_lt hk, e]
  unfold learn1
  rw [if_neg eb.2, if_pos eb.1]
  exact ((w_all _ (by omega)).2).symm
/-! who is overtaken -/
theorem dV_day {v : Nat} (hv : v < o.nv) : ∀ j, dV (dayO o) ((dayO o).vs v) j = dV o (o.vs v) (j + 1)
  | 0 => day_vs hv
  | j + 1 => by
    show stepV (sgO (dayO o) ((dayO o).d + j)) (rbB (dayO o).rn ((dayO o).d + j)) (dV (dayO o) ((dayO o).vs v) j) = stepV (sgO o (o.d + (j + 1))) (rbB o.rn (o.d + (j + 1))) (dV o (o.vs v) (j + 1))
    rw [dV_day hv j, show (dayO o).d + j = o.d + (j + 1) by show o.d + 1 + j = _; omega, sgO_same (o := o) (o2 := dayO o) rfl rfl rfl rfl rfl]
    rfl
theorem ah_day {u w : Nat} (hu : u < o.nv) (hw : w < o.nv) (j : Nat) : ahO (dayO o) u w j = ahO o u w (j + 1) := by
  unfold ahO
  rw [dV_day hu, dV_day hw]
theorem ov_0 {u w : Nat} {r : Int32} (h : OvR o u w r) (h0 : aH o u w = true) : r = 0 := by
  rcases h with ⟨i, hi, rfl, h1, h2⟩ | ⟨rfl, h2⟩
  · rcases Nat.eq_zero_or_pos i with rfl | hp
    · rfl
    · have := h2 0 hp
      rw [show ahO o u w 0 = aH o u w from rfl, h0] at this
      cases this
  · have := h2 0 (by omega)
    rw [show ahO o u w 0 = aH o u w from rfl, h0] at this
    cases this
theorem ov_n {u w : Nat} {r : Int32} (h : OvR o u w r) (h0 : aH o u w = false) : r = -1 ∨ ∃ i, i < 120 ∧ r = nI (i + 1) := by
  rcases h with ⟨i, hi, rfl, h1, h2⟩ | ⟨rfl, h2⟩
  · rcases Nat.eq_zero_or_pos i with rfl | hp
    · rw [show ahO o u w 0 = aH o u w from rfl, h0] at h1
      cases h1
    · exact Or.inr ⟨i - 1, by omega, by rw [show i - 1 + 1 = i by omega]⟩
  · exact Or.inl rfl
theorem ov_day {u w i : Nat} {r : Int32} (hu : u < o.nv) (hw : w < o.nv) (hi : i < 120) (h : OvR o u w (nI (i + 1))) (h2 : OvR (dayO o) u w r) : r = nI i := by
  obtain ⟨a1, a2⟩ : ahO o u w (i + 1) = true ∧ ∀ j, j < i + 1 → ahO o u w j = false := by
    rcases h with ⟨k, hk, e, h1, h3⟩ | ⟨e, _⟩
    · have : i + 1 = k := (nI_eq (by omega) (by omega)).mp e
      subst this
      exact ⟨h1, h3⟩
    · exfalso
      have := congrArg Int32.toInt e
      rw [nI_toInt (by omega), show (-1 : Int32).toInt = -1 from by decide] at this
      omega
  rcases h2 with ⟨k, hk, rfl, h1, h3⟩ | ⟨_, h3⟩
  · rw [ah_day hu hw] at h1
    rcases Nat.lt_trichotomy k i with q | q | q
    · rw [a2 (k + 1) (by omega)] at h1; cases h1
    · rw [q]
    · have := h3 i q
      rw [ah_day hu hw, a1] at this
      cases this
  · have := h3 i (by omega)
    rw [ah_day hu hw, a1] at this
    cases this
def OvK (o : OB) (ov : Int32) : Prop := (o.nv < 2 ∧ ov = -1) ∨ (2 ≤ o.nv ∧ ∃ u w, u < o.nv ∧ w < o.nv ∧ plO o u = 1 ∧ plO o w = 2 ∧ OvR o w u ov)
theorem OvK.n (h : OkO M o) (hM : M < 2 ^ 29) {ov : Int32} (k : OvK o ov) : ov = -1 ∨ ∃ i, i < 120 ∧ ov = nI (i + 1) := by
  rcases k with ⟨_, e⟩ | ⟨_, u, w, hu, hw, e1, e2, h3⟩
  · exact Or.inl e
  · refine ov_n h3 ?_
    cases e9 : aH o w u
    · rfl
    · have := pl_lt h hM hw hu e9
      omega
theorem ne_m1 {i : Nat} (hi : i < 2 ^ 29) : ¬ nI i < -1 := by
  rw [Int32.lt_iff_toInt_lt, nI_toInt (by omega), show (-1 : Int32).toInt = -1 from by decide]
  omega
theorem m1_lt {n : Nat} (hn : n < 2 ^ 29) : ¬ nI n ≤ -1 := by
  rw [Int32.le_iff_toInt_le, nI_toInt (by omega), show (-1 : Int32).toInt = -1 from by decide]
  omega
end LF
/-! ===== rows of the law's own body ===== -/
theorem cmp_0 {x y : Int64} (h : x = y) : lg_cmp x y = 0 := by
  subst h
  unfold lg_cmp
  rw [if_neg (by intro z; exact Int64.lt_irrefl z), if_pos rfl]
abbrev wtsO (o : OB) (v : Nat) : Nat → Int32 := (o.vs v).2.2.2.2
def KF (v k : Nat) : Nat → Nat → Prop := fun u i => u < v ∨ (u = v ∧ i < k)
def KA : Nat → Nat → Prop := fun _ _ => True
theorem KF_0 {u i : Nat} (h : KF 0 0 u i) : False := h.elim (fun z => absurd z (Nat.not_lt_zero _)) (fun z => absurd z.2 (Nat.not_lt_zero _))
theorem KF_nx {m v u i : Nat} (h : KF (v + 1) 0 u i) (hi : i < m) : KF v m u i := by
  rcases h with h | h
  · by_cases e : u = v
    · exact Or.inr ⟨e, hi⟩
    · exact Or.inl (by omega)
  · exact absurd h.2 (Nat.not_lt_zero _)
theorem KF_s {v k u i : Nat} (h : KF v (k + 1) u i) : KF v k u i ∨ (u = v ∧ i = k) := by
  rcases h with h | ⟨h1, h2⟩
  · exact Or.inl (Or.inl h)
  · by_cases e : i = k
    · exact Or.inr ⟨h1, e⟩
    · exact Or.inl (Or.inr ⟨h1, by omega⟩)
section RH
variable {p : Program} {l : Launch} {e : Env} {R : Room} {s : State} {m : MethodId} {args : Array Value} {below : List Frame} {meth : Method} {c : Code} {H : Heap} {locs : List Loc} {cells slots : Nat} {Q : State → Prop}
variable {cc : ByteArray} {pc : Nat} {ls : Array Slot} {rest : List Value}
theorem r_eq01 (hx : p.tables.exec = Jvm.exec) (hb : c.code = cc) {x y : Int32} (d0 : decode cc pc = .ok (.if_icmp .ne 7, 3)) (d1 : decode cc (pc + 3) = .ok (.iconst 1, 1)) (d2 : decode cc (pc + 4) = .ok (.goto 4, 3)) (d3 : decode cc (pc + 7) = .ok (.iconst 0, 1))
    (kk : W p l e R s m args below meth c H locs cells slots Q (F0 m (pc + 8) ls (.int (b2i (decide (x = y))) :: rest))) : W p l e R s m args below meth c H locs cells slots Q (F0 m pc ls (.int y :: .int x :: rest)) := by
  refine lv_icmp_ne (tgt := pc + 7) hx hb d0 (by omega) (fun h9 => ?_) (fun h9 => ?_)
  · rw [decide_eq_false h9] at kk
    exact lv_iconst (v := 0) hx hb d3 (by decide) kk
  · rw [decide_eq_true h9] at kk
    refine lv_iconst (v := 1) hx hb d1 (by decide) ?_
    exact lv_goto (tgt := pc + 8) hx hb d2 (by omega) kk
theorem r_216 (hx : p.tables.exec = Jvm.exec) (hb : c.code = cL_law) {bo : Bool} {w : Int32} {lv : List (Nat × Value)} {k : Nat} (hl : lv_has ls 32 lv) (hk : lv[k]? = some (18, .int w))
    (kk : W p l e R s m args below meth c H locs cells slots Q (F0 m 227 ls (.int (truth bo * w) :: rest))) : W p l e R s m args below meth c H locs cells slots Q (F0 m 216 ls (.int (b2i bo) :: rest)) := by
  rw [tr_mul] at kk
  refine lv_if_eq (tgt := 224) hx hb dL_law_216 (by decide) (fun h9 => ?_) (fun h9 => ?_)
  · cases bo
    · refine lv_iload hx hb dL_law_224 (lv_at hl k hk) ?_
      exact lv_ineg hx hb dL_law_226 kk
    · exact absurd h9 (by decide)
  · cases bo
    · exact absurd rfl h9
    · refine lv_iload hx hb dL_law_219 (lv_at hl k hk) ?_
      exact lv_goto (tgt := 227) hx hb dL_law_221 (by decide) kk
end RH
