/-! ===== villages in a row: what a village is, where the villages of a row lie ===== -/
abbrev VV : Type := Int32 × Int32 × Int32 × Int32 × (Nat → Int32)
/-- where the villages of a row lie: ad v the village, aw v its weights -/
def Vils (g : GG) (L : List Nat) (f : Nat → va_E) (cap : Nat) (ad aw : Nat → Nat) (vs : Nat → VV) : Prop :=
  ∀ v, v < cap → ad v ∈ L ∧ f (ad v) = eO 2 [.ref (aw v), .int (vs v).1, .int (vs v).2.1, .int (vs v).2.2.1, .int (vs v).2.2.2.1] ∧ aw v ∈ L ∧ f (aw v) = eI g 8 (vs v).2.2.2.2
/-- apart -/
def Dst (cap : Nat) (ad aw : Nat → Nat) : Prop := ∀ u v, u < cap → v < cap → u ≠ v → ad u ≠ ad v ∧ aw u ≠ aw v
def Off (cap : Nat) (ad aw : Nat → Nat) (x : Nat) : Prop := ∀ v, v < cap → x ≠ ad v ∧ x ≠ aw v
/-- all but a row's villages is the same -/
def Fr2 (f f2 : Nat → va_E) (cap : Nat) (ad aw : Nat → Nat) : Prop := ∀ x, Off cap ad aw x → f2 x = f x
theorem Fr2.rf {f : Nat → va_E} {cap : Nat} {ad aw : Nat → Nat} : Fr2 f f cap ad aw := fun _ _ => rfl
theorem Fr2.get {f f1 : Nat → va_E} {cap : Nat} {ad aw : Nat → Nat} (h : Fr2 f f1 cap ad aw) {x : Nat} {e : va_E} (hf : f x = e) (hx : Off cap ad aw x) : f1 x = e := (h x hx).trans hf
theorem Fr2.tr {f f1 f2 : Nat → va_E} {cap : Nat} {ad aw : Nat → Nat} (h : Fr2 f f1 cap ad aw) {v : Nat} (hv : v < cap) (h2 : Fr f1 f2 [ad v, aw v]) : Fr2 f f2 cap ad aw := fun x hx => (h2 x (nm_c (hx v hv).1 (nm_c (hx v hv).2 List.not_mem_nil))).trans (h x hx)
theorem Fr2.trans {f f1 f2 : Nat → va_E} {cap : Nat} {ad aw : Nat → Nat} (h : Fr2 f f1 cap ad aw) (h2 : Fr2 f1 f2 cap ad aw) : Fr2 f f2 cap ad aw := fun x hx => (h2 x hx).trans (h x hx)
theorem Vils.ne {g : GG} {L : List Nat} {f : Nat → va_E} {cap : Nat} {ad aw : Nat → Nat} {vs : Nat → VV} (h : Vils g L f cap ad aw vs) {u v : Nat} (hu : u < cap) (hv : v < cap) : ad u ≠ aw v := by
  obtain ⟨_, h1, _, _⟩ := h u hu
  obtain ⟨_, _, _, h2⟩ := h v hv
  exact ne_e h1 h2 (by simp)
theorem Vils.set {g : GG} {L : List Nat} {f f2 : Nat → va_E} {cap : Nat} {ad aw : Nat → Nat} {vs : Nat → VV} (h : Vils g L f cap ad aw vs) (hD : Dst cap ad aw) {v : Nat} (hv : v < cap) (V : VV) (h1 : f2 (ad v) = eO 2 [.ref (aw v), .int V.1, .int V.2.1, .int V.2.2.1, .int V.2.2.2.1]) (h2 : f2 (aw v) = eI g 8 V.2.2.2.2) (hf : ∀ u, u < cap → u ≠ v → f2 (ad u) = f (ad u) ∧ f2 (aw u) = f (aw u)) : Vils g L f2 cap ad aw (fun u => if u = v then V else vs u) := by
  intro u hu
  obtain ⟨a1, a2, a3, a4⟩ := h u hu
  by_cases e : u = v
  · subst e
    simp only [if_true]
    exact ⟨a1, h1, a3, h2⟩
  · simp only [if_neg e]
    obtain ⟨b1, b2⟩ := hf u hu e
    exact ⟨a1, b1.trans a2, a3, b2.trans a4⟩
theorem Vils.set2 {g : GG} {L : List Nat} {f f2 : Nat → va_E} {cap : Nat} {ad aw : Nat → Nat} {vs : Nat → VV} (h : Vils g L f cap ad aw vs) (hD : Dst cap ad aw) {v : Nat} (hv : v < cap) (V : VV) (h1 : f2 (ad v) = eO 2 [.ref (aw v), .int V.1, .int V.2.1, .int V.2.2.1, .int V.2.2.2.1]) (h2 : f2 (aw v) = eI g 8 V.2.2.2.2) (hf : Fr f f2 [ad v, aw v]) : Vils g L f2 cap ad aw (fun u => if u = v then V else vs u) :=
  h.set hD hv V h1 h2 (fun u hu e => ⟨hf _ (nm_c (hD u v hu hv e).1 (nm_c (h.ne hu hv) List.not_mem_nil)), hf _ (nm_c (h.ne hv hu).symm (nm_c (hD u v hu hv e).2 List.not_mem_nil))⟩)
theorem Vils.fr {g : GG} {L : List Nat} {f f2 : Nat → va_E} {cap : Nat} {ad aw : Nat → Nat} {vs : Nat → VV} (h : Vils g L f cap ad aw vs) {as : List Nat} (hf : Fr f f2 as) (hx : ∀ v, v < cap → ad v ∉ as ∧ aw v ∉ as) : Vils g L f2 cap ad aw vs := fun u hu => by
  obtain ⟨a1, a2, a3, a4⟩ := h u hu
  exact ⟨a1, hf.get a2 (hx u hu).1, a3, hf.get a4 (hx u hu).2⟩
theorem Vils.congr {g : GG} {L : List Nat} {f : Nat → va_E} {cap : Nat} {ad aw : Nat → Nat} {vs vs2 : Nat → VV} (h : Vils g L f cap ad aw vs) (e : ∀ v, v < cap → vs v = vs2 v) : Vils g L f cap ad aw vs2 := fun u hu => by rw [← e u hu]; exact h u hu
theorem Off.of {g : GG} {L : List Nat} {f : Nat → va_E} {cap : Nat} {ad aw : Nat → Nat} {vs : Nat → VV} (h : Vils g L f cap ad aw vs) {x : Nat} {e : va_E} (hx : f x = e) (h1 : ∀ fs, e ≠ eO 2 fs) (h2 : ∀ w, e ≠ eI g 8 w) : Off cap ad aw x := fun v hv => by
  obtain ⟨_, a2, _, a4⟩ := h v hv
  exact ⟨ne_e hx a2 (h1 _), ne_e hx a4 (h2 _)⟩
theorem Off.ofI {g : GG} {L : List Nat} {f : Nat → va_E} {cap : Nat} {ad aw : Nat → Nat} {vs : Nat → VV} (h : Vils g L f cap ad aw vs) {x n : Nat} {w : Nat → Int32} (hx : f x = eI g n w) (h2 : ∀ v, v < cap → x ≠ aw v) : Off cap ad aw x := fun v hv => by
  obtain ⟨_, a2, _, a4⟩ := h v hv
  exact ⟨ne_e hx a2 (by simp), h2 v hv⟩
/-- the first n of a row changed -/
def mapV (F : VV → VV) (vs : Nat → VV) (n : Nat) : Nat → VV := fun u => if u < n then F (vs u) else vs u
theorem mapV_0 (F : VV → VV) (vs : Nat → VV) : mapV F vs 0 = vs := funext fun j => if_neg (Nat.not_lt_zero j)
theorem mapV_at (F : VV → VV) (vs : Nat → VV) (n : Nat) : mapV F vs n n = vs n := if_neg (Nat.lt_irrefl n)
theorem mapV_s (F : VV → VV) (vs : Nat → VV) (n : Nat) : (fun u => if u = n then F (vs n) else mapV F vs n u) = mapV F vs (n + 1) := by
  funext j
  unfold mapV
  by_cases h1 : j = n
  · subst h1; simp
  · by_cases h2 : j < n
    · simp [h1, h2, Nat.lt_succ_of_lt h2]
    · have : ¬ j < n + 1 := by omega
      simp [h1, h2, this]
/-- a village's day -/
def leadV (sa : Nat → Int32) (V : VV) : Int32 := leadN sa V.2.2.2.2 8
def hitV (sa : Nat → Int32) (rb : Bool) (V : VV) : Bool := hitB (leadN sa V.2.2.2.2 8) rb
def stepV (sa : Nat → Int32) (rb : Bool) (V : VV) : VV :=
  (V.1, V.2.1 + b2i (hitB (leadN sa V.2.2.2.2 8) rb), sell1 (if hitB (leadN sa V.2.2.2.2 8) rb then V.2.2.2.1 + 1 else 0) V.2.2.1, (if hitB (leadN sa V.2.2.2.2 8) rb then V.2.2.2.1 + 1 else 0), mapN (fun j w => learn1 (truth rb) (sa j) w) V.2.2.2.2 8)
def aheadV (A B : VV) : Bool := aheadB A.2.1 A.2.2.1 A.1 B.2.1 B.2.2.1 B.1
theorem b2z {b : Bool} (h : b2i b = 0) {acc x : Int32} (e : x = acc + 0) : x = acc + b2i b := by rw [h]; exact e
theorem b2o {b : Bool} (h : ¬ b2i b = 0) {acc x : Int32} (e : x = acc + 1) : x = acc + b2i b := by rw [bool1 ⟨b, rfl⟩ h]; exact e
theorem sum1_s {w : Nat → Int32} {n : Nat} {x y : Int32} (h : x = 1 + sumN w n) (e : y = x + w n) : y = 1 + sumN w (n + 1) := by
  rw [e, h, Int32.add_assoc]; rfl
theorem sum1_z {w : Nat → Int32} {n : Nat} {x : Int32} (h : x = 1 + sumN w n) (e : w n = 0) : x = 1 + sumN w (n + 1) := by
  rw [h]
  show 1 + sumN w n = 1 + (sumN w n + w n)
  rw [e, Int32.add_zero]
def placeV (vs : Nat → VV) (n : Nat) (V : VV) : Int32 := 1 + sumN (fun u => b2i (aheadV (vs u) V)) n
/-- only what is below its length counts of a row -/
theorem arrI_congr (c : ClassId) {n : Nat} {h h2 : Nat → Int32} (e : ∀ j, j < n → h j = h2 j) : vp_cell c (n, .inl h) = vp_cell c (n, .inl h2) := by
  have q : (fun j : Fin n => Value.int (h j.val)) = (fun j : Fin n => Value.int (h2 j.val)) := funext fun j => by rw [e j.val j.isLt]
  show arrV c n (fun j => .int (h j)) = arrV c n (fun j => .int (h2 j))
  unfold arrV
  rw [q]
theorem PP.of {g : GG} {L : List Nat} {f : Nat → va_E} {H : Heap} (h : ∀ b, b ∈ L → va_at g.1 vwCl (b, f b) H) : PP g L f H := by
  intro k q hk
  have h1 := pl_inj hk
  have h2 : q = (q.1, f q.1) := by
    unfold va_pl at hk
    rw [List.getElem?_map, h1] at hk
    exact (Option.some.inj hk).symm
  rw [h2]
  exact h _ (List.mem_of_getElem? h1)
theorem PP.swap {g : GG} {L : List Nat} {f : Nat → va_E} {H : Heap} (hP : PP g L f H) {a n : Nat} {h h2 : Nat → Int32} (hf : f a = eI g n h) (e : ∀ j, j < n → h j = h2 j) : PP g L (va_up f a (eI g n h2)) H := by
  refine PP.of (fun b hb => ?_)
  by_cases q : b = a
  · subst q
    have h1 := hP.at hb
    rw [hf] at h1
    rw [va_up_self]
    show H[b]? = some (vp_cell (gI g) (n, .inl h2))
    rw [← arrI_congr (gI g) e]
    exact h1
  · rw [va_up_ne _ _ q]
    exact hP.at hb
