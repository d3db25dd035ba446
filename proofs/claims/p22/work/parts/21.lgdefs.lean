/-! ===== the league: its signs in their list, what a day does to a row of villages ===== -/
def Sgs (g : GG) (L : List Nat) (f : Nat → va_E) (n ed : Nat) (so : Nat → Nat) (el : Nat → Option Nat) (kd nu : Nat → Int32) : Prop :=
  ∀ j, j < n → so j ∈ L ∧ f (so j) = eO 1 [.int (kd j), .int (nu j)] ∧ el j = some (so j) ∧ ed ∈ L ∧ f ed = eQ g 10 el
theorem Sgs.keep {g : GG} {L : List Nat} {f f2 : Nat → va_E} {n ed : Nat} {so : Nat → Nat} {el : Nat → Option Nat} {kd nu : Nat → Int32} (h : Sgs g L f n ed so el kd nu) (h1 : ∀ x fs, f x = eO 1 fs → f2 x = f x) (h2 : ∀ x w, f x = eQ g 10 w → f2 x = f x) : Sgs g L f2 n ed so el kd nu := fun j hj => by
  obtain ⟨a, b, c, d, e⟩ := h j hj
  exact ⟨a, (h1 _ _ b).trans b, c, d, (h2 _ _ e).trans e⟩
theorem fa_n {p : Nat → Prop} : ∀ x ∈ ([] : List Nat), p x := fun _ h => absurd h List.not_mem_nil
theorem fa_c {p : Nat → Prop} {a : Nat} {as : List Nat} (h : p a) (k : ∀ x ∈ as, p x) : ∀ x ∈ a :: as, p x := fun x hx => (List.mem_cons.mp hx).elim (fun e => by rw [e]; exact h) (k x)
theorem Sgs.fr {g : GG} {L : List Nat} {f f2 : Nat → va_E} {n ed : Nat} {so : Nat → Nat} {el : Nat → Option Nat} {kd nu : Nat → Int32} (h : Sgs g L f n ed so el kd nu) {as : List Nat} (hF : Fr f f2 as) (hk : ∀ a ∈ as, (∀ fs, f a ≠ eO 1 fs) ∧ ∀ w, f a ≠ eQ g 10 w) : Sgs g L f2 n ed so el kd nu :=
  h.keep (fun x fs hx => hF x (fun hm => (hk x hm).1 fs hx)) (fun x w hx => hF x (fun hm => (hk x hm).2 w hx))
theorem Sgs.frI {g : GG} {L : List Nat} {f f2 : Nat → va_E} {n ed : Nat} {so : Nat → Nat} {el : Nat → Option Nat} {kd nu : Nat → Int32} (h : Sgs g L f n ed so el kd nu) {a k : Nat} {w : Nat → Int32} (hF : Fr f f2 [a]) (hf : f a = eI g k w) : Sgs g L f2 n ed so el kd nu :=
  h.fr hF (fa_c ⟨fun fs => by rw [hf]; simp, fun w => by rw [hf]; simp⟩ fa_n)
/-- all but the sayings and a row's villages is the same -/
def FrL (f f2 : Nat → va_E) (sy cap : Nat) (ad aw : Nat → Nat) : Prop := ∀ x, x ≠ sy → Off cap ad aw x → f2 x = f x
theorem FrL.rf {f : Nat → va_E} {sy cap : Nat} {ad aw : Nat → Nat} : FrL f f sy cap ad aw := fun _ _ _ => rfl
theorem FrL.get {f f1 : Nat → va_E} {sy cap : Nat} {ad aw : Nat → Nat} (h : FrL f f1 sy cap ad aw) {x : Nat} {e : va_E} (hf : f x = e) (h1 : x ≠ sy) (hx : Off cap ad aw x) : f1 x = e := (h x h1 hx).trans hf
theorem FrL.trans {f f1 f2 : Nat → va_E} {sy cap : Nat} {ad aw : Nat → Nat} (h : FrL f f1 sy cap ad aw) (h2 : FrL f1 f2 sy cap ad aw) : FrL f f2 sy cap ad aw := fun x a b => (h2 x a b).trans (h x a b)
theorem FrL.sy {f f1 f2 : Nat → va_E} {sy cap : Nat} {ad aw : Nat → Nat} (h : FrL f f1 sy cap ad aw) (h2 : Fr f1 f2 [sy]) : FrL f f2 sy cap ad aw := fun x a b => (h2 x (nm_c a List.not_mem_nil)).trans (h x a b)
theorem FrL.vil {f f1 f2 : Nat → va_E} {sy cap : Nat} {ad aw : Nat → Nat} (h : FrL f f1 sy cap ad aw) (h2 : Fr2 f1 f2 cap ad aw) : FrL f f2 sy cap ad aw := fun x a b => (h2 x b).trans (h x a b)
theorem Sgs.fr2 {g : GG} {L : List Nat} {f f2 : Nat → va_E} {n ed : Nat} {so : Nat → Nat} {el : Nat → Option Nat} {kd nu : Nat → Int32} (h : Sgs g L f n ed so el kd nu) {cap : Nat} {ad aw : Nat → Nat} {vs : Nat → VV} (hV : Vils g L f cap ad aw vs) (hF : Fr2 f f2 cap ad aw) : Sgs g L f2 n ed so el kd nu :=
  h.keep (fun x fs hx => hF x (Off.of hV hx (by simp) (by simp))) (fun x w hx => hF x (Off.of hV hx (by simp) (by simp)))
theorem Sgs.frL {g : GG} {L : List Nat} {f f2 : Nat → va_E} {n ed : Nat} {so : Nat → Nat} {el : Nat → Option Nat} {kd nu : Nat → Int32} (h : Sgs g L f n ed so el kd nu) {sy cap k : Nat} {ad aw : Nat → Nat} {vs : Nat → VV} {w : Nat → Int32} (hV : Vils g L f cap ad aw vs) (hs : f sy = eI g k w) (hF : FrL f f2 sy cap ad aw) : Sgs g L f2 n ed so el kd nu :=
  h.keep (fun x fs hx => hF x (ne_e hx hs (by simp)) (Off.of hV hx (by simp) (by simp))) (fun x w hx => hF x (ne_e hx hs (by simp)) (Off.of hV hx (by simp) (by simp)))
theorem Vils.fr1 {g : GG} {L : List Nat} {f f2 : Nat → va_E} {cap : Nat} {ad aw : Nat → Nat} {vs : Nat → VV} (h : Vils g L f cap ad aw vs) {a : Nat} (hf : Fr f f2 [a]) (ho : Off cap ad aw a) : Vils g L f2 cap ad aw vs :=
  h.fr hf (fun v hv => ⟨nm_c (ho v hv).1.symm List.not_mem_nil, nm_c (ho v hv).2.symm List.not_mem_nil⟩)
theorem sg_t {b : Bool} (h : ¬ b2i b = 0) : (1 : Int32) = truth b := by
  cases b
  · exact absurd rfl h
  · rfl
theorem sg_f {b : Bool} (h : b2i b = 0) : (-1 : Int32) = truth b := by rw [b2i_0.mp h]; rfl
def saS (kd nu gl rn : Nat → Int32) (n d : Nat) (sa : Nat → Int32) : Nat → Int32 := mapN (fun j _ => truth (sayB (kd j) (nu j) gl rn d)) sa n
def rbB (rn : Nat → Int32) (d : Nat) : Bool := decide (rn (d % 12) = 1)
theorem rb_eq {rn : Nat → Int32} {d : Nat} (h : ∃ b, rn (d % 12) = b2i b) : rn (d % 12) = b2i (rbB rn d) := by
  obtain ⟨b, hb⟩ := h
  unfold rbB
  rw [hb, b2i_d]
abbrev LX : Type := (Nat → Int32) × (Nat → VV)
def dayL (kd nu gl rn : Nat → Int32) (n m d : Nat) (X : LX) : LX := (saS kd nu gl rn n d X.1, mapV (stepV (saS kd nu gl rn n d X.1) (rbB rn d)) X.2 m)
def itL (kd nu gl rn : Nat → Int32) (n m d : Nat) (X : LX) : Nat → LX
  | 0 => X
  | k + 1 => dayL kd nu gl rn n m (d + k) (itL kd nu gl rn n m d X k)
def hitsL (kd nu gl rn : Nat → Int32) (n m d : Nat) (X : LX) : Int32 := sumN (fun v => b2i (hitV (saS kd nu gl rn n d X.1) (rbB rn d) (X.2 v))) m
def covL (sa : Nat → Int32) (vs : Nat → VV) (m k : Nat) : Int32 :=
  if k = 3 then sumN (fun v => (vs v).2.1) m else if k = 4 then sumN (fun v => (vs v).2.2.1) m else sumN (fun v => b2i (decide (0 < leadV sa (vs v)))) m
