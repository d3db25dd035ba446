/-! ===== what can be seen of a league, as one value: day, numbers of signs and villages, tables, signs, villages ===== -/
abbrev OB : Type := Nat × Nat × Nat × (Nat → Int32) × (Nat → Int32) × (Nat → Int32) × (Nat → Int32) × (Nat → VV)
abbrev OB.d (o : OB) : Nat := o.1
abbrev OB.n (o : OB) : Nat := o.2.1
abbrev OB.nv (o : OB) : Nat := o.2.2.1
abbrev OB.gl (o : OB) : Nat → Int32 := o.2.2.2.1
abbrev OB.rn (o : OB) : Nat → Int32 := o.2.2.2.2.1
abbrev OB.kd (o : OB) : Nat → Int32 := o.2.2.2.2.2.1
abbrev OB.nu (o : OB) : Nat → Int32 := o.2.2.2.2.2.2.1
abbrev OB.vs (o : OB) : Nat → VV := o.2.2.2.2.2.2.2
/-- what the signs say of a day, as factors; 0 beyond them -/
def sgO (o : OB) (d : Nat) : Nat → Int32 := saS o.kd o.nu o.gl o.rn o.n d (fun _ => 0)
def dayO (o : OB) : OB := (o.d + 1, o.n, o.nv, o.gl, o.rn, o.kd, o.nu, mapV (stepV (sgO o o.d) (rbB o.rn o.d)) o.vs o.nv)
def hitsO (o : OB) : Int32 := sumN (fun v => b2i (hitV (sgO o o.d) (rbB o.rn o.d) (o.vs v))) o.nv
def itO (o : OB) : Nat → OB
  | 0 => o
  | k + 1 => dayO (itO o k)
def hitK (o : OB) (k : Nat) : Int32 := sumN (fun i => hitsO (itO o i)) k
/-- a village as it can be -/
def OkV (M v : Nat) (V : VV) : Prop := V.1 = nI v ∧ ∃ p c r : Nat, p ≤ M ∧ c ≤ M ∧ r ≤ p ∧ V.2.1 = nI p ∧ V.2.2.1 = nI c ∧ V.2.2.2.1 = nI r ∧ ∀ j, j < 8 → ∃ w : Nat, w ≤ 100 ∧ V.2.2.2.2 j = nI w
/-- a village that has not joined yet -/
def NewV (V : VV) : Prop := V.2.1 = 0 ∧ V.2.2.1 = 10 ∧ V.2.2.2.1 = 0 ∧ ∀ j, j < 8 → V.2.2.2.2 j = 20
def OkO (M : Nat) (o : OB) : Prop := o.n ≤ 8 ∧ o.nv ≤ 6 ∧ o.d ≤ M ∧ (∀ k, k < 12 → ∃ b, o.rn k = b2i b) ∧ (∀ j, j < o.n → ∃ m : Nat, m ≤ 60 ∧ o.nu j = nI m) ∧ (∀ v, v < 6 → OkV M v (o.vs v)) ∧ (∀ k, k < 12 → ∃ m : Nat, m ≤ 60 ∧ o.gl k = nI m) ∧ ∀ v, o.nv ≤ v → v < 6 → NewV (o.vs v)
theorem OkO.hn {M : Nat} {o : OB} (h : OkO M o) : o.n ≤ 8 := h.1
theorem OkO.hnv {M : Nat} {o : OB} (h : OkO M o) : o.nv ≤ 6 := h.2.1
theorem OkO.hd {M : Nat} {o : OB} (h : OkO M o) : o.d ≤ M := h.2.2.1
theorem OkO.hrn {M : Nat} {o : OB} (h : OkO M o) : ∀ k, k < 12 → ∃ b, o.rn k = b2i b := h.2.2.2.1
theorem OkO.hnu {M : Nat} {o : OB} (h : OkO M o) : ∀ j, j < o.n → ∃ m : Nat, m ≤ 60 ∧ o.nu j = nI m := h.2.2.2.2.1
theorem OkO.hV {M : Nat} {o : OB} (h : OkO M o) : ∀ v, v < 6 → OkV M v (o.vs v) := h.2.2.2.2.2.1
theorem OkO.hgl {M : Nat} {o : OB} (h : OkO M o) : ∀ k, k < 12 → ∃ m : Nat, m ≤ 60 ∧ o.gl k = nI m := h.2.2.2.2.2.2.1
theorem OkO.hW {M : Nat} {o : OB} (h : OkO M o) : ∀ v, o.nv ≤ v → v < 6 → NewV (o.vs v) := h.2.2.2.2.2.2.2
theorem OkV.mono {M M2 v : Nat} {V : VV} (h : OkV M v V) (hM : M ≤ M2) : OkV M2 v V := by
  obtain ⟨h1, p, c, r, a1, a2, a3, a4⟩ := h
  exact ⟨h1, p, c, r, Nat.le_trans a1 hM, Nat.le_trans a2 hM, a3, a4⟩
theorem OkO.mono {M M2 : Nat} {o : OB} (h : OkO M o) (hM : M ≤ M2) : OkO M2 o :=
  ⟨h.1, h.2.1, Nat.le_trans h.hd hM, h.hrn, h.hnu, fun v hv => (h.hV v hv).mono hM, h.hgl, h.hW⟩
/-- the factors beyond the signs are 0: then what lay there before is the same -/
theorem saS_z {kd nu gl rn : Nat → Int32} {n d : Nat} {sa : Nat → Int32} (h : ∀ j, n ≤ j → sa j = 0) : saS kd nu gl rn n d sa = saS kd nu gl rn n d (fun _ => 0) := by
  funext j
  unfold saS mapN
  by_cases hj : j < n
  · rw [if_pos hj, if_pos hj]
  · rw [if_neg hj, if_neg hj, h j (by omega)]
theorem sgO_lt {o : OB} {d j : Nat} (h : j < o.n) : sgO o d j = truth (sayB (o.kd j) (o.nu j) o.gl o.rn d) := if_pos h
theorem sgO_ge {o : OB} {d j : Nat} (h : o.n ≤ j) : sgO o d j = 0 := if_neg (by omega)
theorem sgO_same {o o2 : OB} {d : Nat} (h1 : o2.n = o.n) (h2 : o2.gl = o.gl) (h3 : o2.rn = o.rn) (h4 : o2.kd = o.kd) (h5 : o2.nu = o.nu) : sgO o2 d = sgO o d := by
  unfold sgO; rw [h1, h2, h3, h4, h5]
theorem itO_d (o : OB) : ∀ k, (itO o k).d = o.d + k
  | 0 => rfl
  | k + 1 => by show (itO o k).d + 1 = _; rw [itO_d o k]; omega
theorem itO_n (o : OB) : ∀ k, (itO o k).n = o.n
  | 0 => rfl
  | k + 1 => itO_n o k
theorem itO_nv (o : OB) : ∀ k, (itO o k).nv = o.nv
  | 0 => rfl
  | k + 1 => itO_nv o k
theorem itO_gl (o : OB) : ∀ k, (itO o k).gl = o.gl
  | 0 => rfl
  | k + 1 => itO_gl o k
theorem itO_rn (o : OB) : ∀ k, (itO o k).rn = o.rn
  | 0 => rfl
  | k + 1 => itO_rn o k
theorem itO_kd (o : OB) : ∀ k, (itO o k).kd = o.kd
  | 0 => rfl
  | k + 1 => itO_kd o k
theorem itO_nu (o : OB) : ∀ k, (itO o k).nu = o.nu
  | 0 => rfl
  | k + 1 => itO_nu o k
theorem itO_sg (o : OB) (k d : Nat) : sgO (itO o k) d = sgO o d := sgO_same (itO_n o k) (itO_gl o k) (itO_rn o k) (itO_kd o k) (itO_nu o k)
/-- the class's days are these -/
theorem itL_O (o : OB) {sa : Nat → Int32} (hs : ∀ j, o.n ≤ j → sa j = 0) : ∀ k, (∀ j, o.n ≤ j → (itL o.kd o.nu o.gl o.rn o.n o.nv o.d (sa, o.vs) k).1 j = 0) ∧ (itL o.kd o.nu o.gl o.rn o.n o.nv o.d (sa, o.vs) k).2 = (itO o k).vs
  | 0 => ⟨hs, rfl⟩
  | k + 1 => by
    obtain ⟨h1, h2⟩ := itL_O o hs k
    refine ⟨fun j hj => (saS_0 hj).trans (h1 j hj), ?_⟩
    show mapV (stepV (saS o.kd o.nu o.gl o.rn o.n (o.d + k) (itL o.kd o.nu o.gl o.rn o.n o.nv o.d (sa, o.vs) k).1) (rbB o.rn (o.d + k))) (itL o.kd o.nu o.gl o.rn o.n o.nv o.d (sa, o.vs) k).2 o.nv = mapV (stepV (sgO (itO o k) (itO o k).d) (rbB (itO o k).rn (itO o k).d)) (itO o k).vs (itO o k).nv
    rw [saS_z h1, h2, itO_sg, itO_rn, itO_d, itO_nv]
    rfl
theorem hitL_O (o : OB) {sa : Nat → Int32} (hs : ∀ j, o.n ≤ j → sa j = 0) (k : Nat) : hitsL o.kd o.nu o.gl o.rn o.n o.nv (o.d + k) (itL o.kd o.nu o.gl o.rn o.n o.nv o.d (sa, o.vs) k) = hitsO (itO o k) := by
  obtain ⟨h1, h2⟩ := itL_O o hs k
  unfold hitsL hitsO
  rw [saS_z h1, h2, itO_sg, itO_rn, itO_d, itO_nv]
  rfl
/-- where a league lies that is seen so -/
def Obs (D : LgD) : OB := (D.d, D.n, D.nv, D.gl, D.rn, D.kd, D.nu, D.vs)
def SyO (a : LgA) (g : GG) (t : Nat) (L : List Nat) (f : Nat → va_E) (o : OB) : Prop := ∃ D : LgD, SyB a [] g t L f D ∧ Obs D = o
/-- rows of one length -/
def RowsB (g : GG) (L : List Nat) (f : Nat → va_E) (m n : Nat) (fa : Nat → Nat) (h : Nat → Nat → Int32) : Prop := ∀ j, j < n → fa j ∈ L ∧ ∃ z, f (fa j) = eI g m z ∧ ∀ i, i < m → z i = h j i
def Inj (n : Nat) (fa : Nat → Nat) : Prop := ∀ u v, u < n → v < n → u ≠ v → fa u ≠ fa v
def pr2 (a b : Int32) : Nat → Int32
  | 0 => a
  | _ => b
def vr3 (V : VV) : Nat → Int32
  | 0 => V.2.1
  | 1 => V.2.2.1
  | _ => V.2.2.2.1
theorem RowsB.cg {g : GG} {L : List Nat} {f : Nat → va_E} {m n : Nat} {fa : Nat → Nat} {h h2 : Nat → Nat → Int32} (k : RowsB g L f m n fa h) (e : ∀ j, j < n → ∀ i, i < m → h j i = h2 j i) : RowsB g L f m n fa h2 := fun j hj => by
  obtain ⟨a1, z, a2, a3⟩ := k j hj
  exact ⟨a1, z, a2, fun i hi => (a3 i hi).trans (e j hj i hi)⟩
theorem RowsB.fr {g : GG} {L : List Nat} {f f2 : Nat → va_E} {m n : Nat} {fa : Nat → Nat} {h : Nat → Nat → Int32} (k : RowsB g L f m n fa h) {a : Nat} (hF : Fr f f2 [a]) (ha : ∀ z, f a ≠ eI g m z) : RowsB g L f2 m n fa h := fun j hj => by
  obtain ⟨a1, z, a2, a3⟩ := k j hj
  exact ⟨a1, z, hF.get a2 (nm_c (fun e => ha z (by rw [← e]; exact a2)) List.not_mem_nil), a3⟩
theorem RowsB.up {g : GG} {L : List Nat} {f : Nat → va_E} {m n : Nat} {fa : Nat → Nat} {h : Nat → Nat → Int32} (k : RowsB g L f m n fa h) {a : Nat} {e : va_E} (ha : ∀ z, f a ≠ eI g m z) : RowsB g L (va_up f a e) m n fa h := k.fr (Fr.rf.up (by simp)) ha
theorem RowsB.set {g : GG} {L : List Nat} {f f2 : Nat → va_E} {m n : Nat} {fa : Nat → Nat} {h h2 : Nat → Nat → Int32} (k : RowsB g L f m n fa h) (hI : Inj n fa) {i : Nat} (hi : i < n) {X : Nat → Int32} (hF : Fr f f2 [fa i]) (h1 : f2 (fa i) = eI g m X) (e : ∀ q, q < m → X q = h2 i q) (e2 : ∀ j, j < n → j ≠ i → ∀ q, q < m → h j q = h2 j q) : RowsB g L f2 m n fa h2 := fun j hj => by
  obtain ⟨a1, z, a2, a3⟩ := k j hj
  by_cases q : j = i
  · subst q
    exact ⟨a1, X, h1, e⟩
  · exact ⟨a1, z, hF.get a2 (nm_c (hI j i hj hi q) List.not_mem_nil), fun w hw => (a3 w hw).trans (e2 j hj q w hw)⟩
theorem RowsB.grow {g : GG} {L L2 : List Nat} {f f2 : Nat → va_E} {m n : Nat} {fa : Nat → Nat} {h : Nat → Nat → Int32} (k : RowsB g L f m n fa h) (hs : ∀ x ∈ L, x ∈ L2) (e : ∀ x ∈ L, f2 x = f x) : RowsB g L2 f2 m n fa h := fun j hj => by
  obtain ⟨a1, z, a2, a3⟩ := k j hj
  exact ⟨hs _ a1, z, (e _ a1).trans a2, a3⟩
/-- where the league by hand lies: the object, glass, rain, the three rows of rows, their rows -/
abbrev SmA : Type := Nat × Nat × Nat × Nat × Nat × Nat × (Nat → Nat) × (Nat → Nat) × (Nat → Nat)
abbrev SmA.sm (a : SmA) : Nat := a.1
abbrev SmA.sg (a : SmA) : Nat := a.2.1
abbrev SmA.sr (a : SmA) : Nat := a.2.2.1
abbrev SmA.ss (a : SmA) : Nat := a.2.2.2.1
abbrev SmA.sv (a : SmA) : Nat := a.2.2.2.2.1
abbrev SmA.sw (a : SmA) : Nat := a.2.2.2.2.2.1
abbrev SmA.fs (a : SmA) : Nat → Nat := a.2.2.2.2.2.2.1
abbrev SmA.fv (a : SmA) : Nat → Nat := a.2.2.2.2.2.2.2.1
abbrev SmA.fw (a : SmA) : Nat → Nat := a.2.2.2.2.2.2.2.2
abbrev eS (d sg sr ss sv sw : Nat) : va_E := eO 6 [.int (nI d), .ref sg, .ref sr, .ref ss, .ref sv, .ref sw]
/-- its villages' rows are kv, its weights' rows kw -/
def SimG (a : SmA) (g : GG) (L : List Nat) (f : Nat → va_E) (o : OB) (kv kw : Nat) : Prop := a.sm ∈ L ∧ f a.sm = eS o.d a.sg a.sr a.ss a.sv a.sw ∧ a.sg ∈ L ∧ f a.sg = eI g 12 o.gl ∧ a.sr ∈ L ∧ f a.sr = eZ g 12 o.rn ∧ a.ss ∈ L ∧ f a.ss = eR g o.n (vilR a.fs o.n) ∧ a.sv ∈ L ∧ f a.sv = eR g kv (vilR a.fv kv) ∧ a.sw ∈ L ∧ f a.sw = eR g kw (vilR a.fw kw) ∧ RowsB g L f 2 o.n a.fs (fun j => pr2 (o.kd j) (o.nu j)) ∧ RowsB g L f 3 kv a.fv (fun v => vr3 (o.vs v)) ∧ RowsB g L f 8 kw a.fw (fun v => (o.vs v).2.2.2.2) ∧ Inj kv a.fv ∧ Inj kw a.fw ∧ a.sg ≠ a.sr
def SimO (a : SmA) (g : GG) (L : List Nat) (f : Nat → va_E) (o : OB) : Prop := SimG a g L f o o.nv o.nv
theorem SimO.L_sm {a : SmA} {g : GG} {L : List Nat} {f : Nat → va_E} {o : OB} (h : SimO a g L f o) : a.sm ∈ L := h.1
theorem SimO.f_sm {a : SmA} {g : GG} {L : List Nat} {f : Nat → va_E} {o : OB} (h : SimO a g L f o) : f a.sm = eS o.d a.sg a.sr a.ss a.sv a.sw := h.2.1
theorem SimO.L_sg {a : SmA} {g : GG} {L : List Nat} {f : Nat → va_E} {o : OB} (h : SimO a g L f o) : a.sg ∈ L := h.2.2.1
theorem SimO.f_sg {a : SmA} {g : GG} {L : List Nat} {f : Nat → va_E} {o : OB} (h : SimO a g L f o) : f a.sg = eI g 12 o.gl := h.2.2.2.1
theorem SimO.L_sr {a : SmA} {g : GG} {L : List Nat} {f : Nat → va_E} {o : OB} (h : SimO a g L f o) : a.sr ∈ L := h.2.2.2.2.1
theorem SimO.f_sr {a : SmA} {g : GG} {L : List Nat} {f : Nat → va_E} {o : OB} (h : SimO a g L f o) : f a.sr = eZ g 12 o.rn := h.2.2.2.2.2.1
theorem SimO.L_ss {a : SmA} {g : GG} {L : List Nat} {f : Nat → va_E} {o : OB} (h : SimO a g L f o) : a.ss ∈ L := h.2.2.2.2.2.2.1
theorem SimO.f_ss {a : SmA} {g : GG} {L : List Nat} {f : Nat → va_E} {o : OB} (h : SimO a g L f o) : f a.ss = eR g o.n (vilR a.fs o.n) := h.2.2.2.2.2.2.2.1
theorem SimO.L_sv {a : SmA} {g : GG} {L : List Nat} {f : Nat → va_E} {o : OB} (h : SimO a g L f o) : a.sv ∈ L := h.2.2.2.2.2.2.2.2.1
theorem SimO.f_sv {a : SmA} {g : GG} {L : List Nat} {f : Nat → va_E} {o : OB} (h : SimO a g L f o) : f a.sv = eR g o.nv (vilR a.fv o.nv) := h.2.2.2.2.2.2.2.2.2.1
theorem SimO.L_sw {a : SmA} {g : GG} {L : List Nat} {f : Nat → va_E} {o : OB} (h : SimO a g L f o) : a.sw ∈ L := h.2.2.2.2.2.2.2.2.2.2.1
theorem SimO.f_sw {a : SmA} {g : GG} {L : List Nat} {f : Nat → va_E} {o : OB} (h : SimO a g L f o) : f a.sw = eR g o.nv (vilR a.fw o.nv) := h.2.2.2.2.2.2.2.2.2.2.2.1
theorem SimO.hSR {a : SmA} {g : GG} {L : List Nat} {f : Nat → va_E} {o : OB} (h : SimO a g L f o) : RowsB g L f 2 o.n a.fs (fun j => pr2 (o.kd j) (o.nu j)) := h.2.2.2.2.2.2.2.2.2.2.2.2.1
theorem SimO.hVR {a : SmA} {g : GG} {L : List Nat} {f : Nat → va_E} {o : OB} (h : SimO a g L f o) : RowsB g L f 3 o.nv a.fv (fun v => vr3 (o.vs v)) := h.2.2.2.2.2.2.2.2.2.2.2.2.2.1
theorem SimO.hWR {a : SmA} {g : GG} {L : List Nat} {f : Nat → va_E} {o : OB} (h : SimO a g L f o) : RowsB g L f 8 o.nv a.fw (fun v => (o.vs v).2.2.2.2) := h.2.2.2.2.2.2.2.2.2.2.2.2.2.2.1
theorem SimO.hIv {a : SmA} {g : GG} {L : List Nat} {f : Nat → va_E} {o : OB} (h : SimO a g L f o) : Inj o.nv a.fv := h.2.2.2.2.2.2.2.2.2.2.2.2.2.2.2.1
theorem SimO.hIw {a : SmA} {g : GG} {L : List Nat} {f : Nat → va_E} {o : OB} (h : SimO a g L f o) : Inj o.nv a.fw := h.2.2.2.2.2.2.2.2.2.2.2.2.2.2.2.2.1
theorem SimO.hgr {a : SmA} {g : GG} {L : List Nat} {f : Nat → va_E} {o : OB} (h : SimO a g L f o) : a.sg ≠ a.sr := h.2.2.2.2.2.2.2.2.2.2.2.2.2.2.2.2.2
theorem SimO.grow {a : SmA} {g : GG} {L L2 : List Nat} {f f2 : Nat → va_E} {o : OB} (h : SimO a g L f o) (hs : ∀ x ∈ L, x ∈ L2) (e : ∀ x ∈ L, f2 x = f x) : SimO a g L2 f2 o :=
  ⟨hs _ h.L_sm, (e _ h.L_sm).trans h.f_sm, hs _ h.L_sg, (e _ h.L_sg).trans h.f_sg, hs _ h.L_sr, (e _ h.L_sr).trans h.f_sr, hs _ h.L_ss, (e _ h.L_ss).trans h.f_ss, hs _ h.L_sv, (e _ h.L_sv).trans h.f_sv, hs _ h.L_sw, (e _ h.L_sw).trans h.f_sw, h.hSR.grow hs e, h.hVR.grow hs e, h.hWR.grow hs e, h.hIv, h.hIw, h.hgr⟩
