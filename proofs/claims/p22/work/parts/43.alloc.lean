/-! ===== methods that make cells: the pool grows ===== -/
def GR (L L2 : List Nat) (sz : Nat) : Prop := L2.Nodup ∧ (∀ a ∈ L, a ∈ L2) ∧ ∀ a ∈ L2, AA L sz a
/-- ArrayList's static empty row, at the address t -/
def DS (t : Nat) (L : List Nat) (sz : Nat) (U : State) : Prop := va_Z "java/util/ArrayList" "DEFAULTCAPACITY_EMPTY_ELEMENTDATA" "[Ljava/lang/Object;" (.ref t) (AA L sz) U U.heap ∧ va_T (.object "java/lang/Object") t 0 (fun _ => .null) (AA L sz) U U.heap
theorem DS.step {t : Nat} {L L2 : List Nat} {s U : State} {H : Heap} {locs : List Loc} (h : DS t L s.heap.size s) (hS : va_S (AA L s.heap.size) s.heap H locs) (hU : U.heap = H) (hW : s.WarmedH U.vm) (hA : ∀ a ∈ L2, AA L s.heap.size a) : DS t L2 H.size U := by
  subst hU
  have hm : ∀ q, AA L2 U.heap.size q → AA L s.heap.size q := fun q k => k.elim (hA q) (fun z => Or.inr (Nat.le_trans hS.1 z))
  exact ⟨va_Z.narrow (va_Z.kept (va_Z.moved hW.alike h.1) hS.2.1) hm, va_T.narrow (va_T.kept (va_T.moved hW.alike h.2) hS.2.1) hm⟩
theorem DS.same {t : Nat} {L : List Nat} {sz : Nat} {s : State} {gg : JFrame} {mk : MethodId} {a : Array Value} (h : DS t L sz s) : DS t L sz (s.calling gg mk a) :=
  ⟨va_Z.moved (u := s) (U := s.calling gg mk a) (Vm.Alike.refl s.vm) h.1, va_T.moved (u := s) (U := s.calling gg mk a) (Vm.Alike.refl s.vm) h.2⟩
theorem ZZ.step2 {L L2 : List Nat} {s U : State} {H : Heap} {locs : List Loc} (h : ZZ L s.heap.size s) (hS : va_S (AA L s.heap.size) s.heap H locs) (hU : U.heap = H) (hW : s.WarmedH U.vm) (hA : ∀ a ∈ L2, AA L s.heap.size a) : ZZ L2 H.size U := by
  subst hU
  have hm : ∀ q, AA L2 U.heap.size q → AA L s.heap.size q := fun q k => k.elim (hA q) (fun z => Or.inr (Nat.le_trans hS.1 z))
  exact ⟨vx_Zq.narrow (vx_Zq.kept (vx_Zq.moved hW.alike h.1) hS.2.1) hm, vx_Zq.narrow (vx_Zq.kept (vx_Zq.moved hW.alike h.2.1) hS.2.1) hm, fun q hq => (h.2.2 q hq).elim (fun a k => ⟨a, vk_R.warm hW k⟩)⟩
abbrev dp (t : Nat) (g : GG) (L : List Nat) (f : Nat → va_E) (sz : Nat) : State → Prop := fun U => U.heap.size = sz ∧ PP g L f U.heap ∧ KK g U ∧ DS t L sz U
theorem dp_blind {t : Nat} {g : GG} {L : List Nat} {f : Nat → va_E} {sz : Nat} {As : List Value} : FrameBlind (va_Pc As (dp t g L f sz)) := fun a U gg mk q => ⟨q.1, q.2.1, q.2.2.1, KK.same (s := U) (U := U.calling gg mk a) rfl q.2.2.2.1, DS.same q.2.2.2.2⟩
abbrev AV (l : Launch) (g : GG) (y : MethodName) (ws : List Cond) (fr lo mc ms : Nat) (t : Nat) (L : List Nat) (f : Nat → va_E) (sz : Nat) (As : List Value) (post : List Nat → (Nat → va_E) → Prop) : Prop := Met l y ws ({ frames := fr, cells := mc, slots := ms, locals := lo }) (va_Pc As (dp t g L f sz)) (va_Qv (fun u : List Nat × (Nat → va_E) => GR L u.1 sz ∧ post u.1 u.2) (fun u T => PP g u.1 u.2 T.heap) (AA L sz)) mc ms (AA L sz)
abbrev AW (l : Launch) (g : GG) (y : MethodName) (ws : List Cond) (fr lo mc ms : Nat) (t : Nat) (L : List Nat) (f : Nat → va_E) (sz : Nat) (As : List Value) (post : Int32 → List Nat → (Nat → va_E) → Prop) : Prop := Met l y ws ({ frames := fr, cells := mc, slots := ms, locals := lo }) (va_Pc As (dp t g L f sz)) (va_Qi (fun r (u : List Nat × (Nat → va_E)) => GR L u.1 sz ∧ post r u.1 u.2) (fun u T => PP g u.1 u.2 T.heap) (AA L sz)) mc ms (AA L sz)
abbrev AR (l : Launch) (g : GG) (y : MethodName) (ws : List Cond) (fr lo mc ms : Nat) (t : Nat) (L : List Nat) (f : Nat → va_E) (sz : Nat) (As : List Value) (post : Nat → List Nat → (Nat → va_E) → Prop) : Prop := Met l y ws ({ frames := fr, cells := mc, slots := ms, locals := lo }) (va_Pc As (dp t g L f sz)) (va_Qr (fun u : Nat × List Nat × (Nat → va_E) => GR L u.2.1 sz ∧ post u.1 u.2.1 u.2.2) (fun u a T => a = u.1 ∧ PP g u.2.1 u.2.2 T.heap) (AA L sz)) mc ms (AA L sz)
abbrev TA (l : Launch) (g : GG) (y : MethodName) (ws : List Cond) (fr lo mc ms : Nat) (t : Nat) (L : List Nat) (f : Nat → va_E) (sz : Nat) (As : List Value) (post : Int32 → List Nat → (Nat → va_E) → Prop) (xc : String → Prop) : Prop := vx_Met l y ws ({ frames := fr, cells := mc, slots := ms, locals := lo }) (va_Pc As (fun U => tp g L f sz U ∧ DS t L sz U)) (va_Qi (fun r (u : List Nat × (Nat → va_E)) => GR L u.1 sz ∧ post r u.1 u.2) (fun u T => PP g u.1 u.2 T.heap) (AA L sz)) (XX g L f sz xc) mc ms (AA L sz)
theorem ta_blind {t : Nat} {g : GG} {L : List Nat} {f : Nat → va_E} {sz : Nat} {As : List Value} : FrameBlind (va_Pc As (fun U => tp g L f sz U ∧ DS t L sz U)) := fun a U gg mk q => ⟨q.1, ⟨q.2.1.1, q.2.1.2.1, KK.same (s := U) (U := U.calling gg mk a) rfl q.2.1.2.2.1, ZZ.same q.2.1.2.2.2⟩, DS.same q.2.2⟩
/-- what lay in the pool, but some addresses, is the same -/
def FrN (L : List Nat) (f f2 : Nat → va_E) (as : List Nat) : Prop := ∀ x ∈ L, x ∉ as → f2 x = f x
theorem FrN.rf {L : List Nat} {f : Nat → va_E} {as : List Nat} : FrN L f f as := fun _ _ _ => rfl
theorem FrN.up {L : List Nat} {f f1 : Nat → va_E} {as : List Nat} (h : FrN L f f1 as) {a : Nat} {e : va_E} (ha : a ∈ as ∨ a ∉ L) : FrN L f (va_up f1 a e) as := fun x hx hn => by
  rw [va_up_ne _ _ (fun q => ha.elim (fun z => hn (by rw [q]; exact z)) (fun z => z (by rw [← q]; exact hx)))]
  exact h x hx hn
theorem FrN.tr {L : List Nat} {f f1 f2 : Nat → va_E} {as bs : List Nat} (h : FrN L f f1 as) (h2 : Fr f1 f2 bs) (hs : ∀ x ∈ bs, x ∈ as ∨ x ∉ L) : FrN L f f2 as := fun x hx hn => (h2 x (fun q => (hs x q).elim hn (fun z => z hx))).trans (h x hx hn)
theorem FrN.tr2 {L L2 : List Nat} {f f1 f2 : Nat → va_E} {as bs : List Nat} (h : FrN L f f1 as) (hL : ∀ x ∈ L, x ∈ L2) (h2 : FrN L2 f1 f2 bs) (hs : ∀ x ∈ bs, x ∈ as ∨ x ∉ L) : FrN L f f2 as := fun x hx hn => (h2 x (hL x hx) (fun q => (hs x q).elim hn (fun z => z hx))).trans (h x hx hn)
theorem FrN.get {L : List Nat} {f f1 : Nat → va_E} {as : List Nat} (h : FrN L f f1 as) {x : Nat} {e : va_E} (hx : x ∈ L) (hf : f x = e) (hn : x ∉ as) : f1 x = e := (h x hx hn).trans hf
theorem PP.grow {g : GG} {A : Nat → Prop} {L : List Nat} {f : Nat → va_E} {H : Heap} {q : Nat} {e : va_E} (hP : va_P g.1 vwCl (va_pl L f ++ [(q, e)]) H) (hD : va_D A (va_pl L f ++ [(q, e)])) : q ∉ L ∧ A q ∧ PP g (q :: L) (va_up f q e) H := by
  have hlen : (va_pl L f ++ [(q, e)])[(va_pl L f).length]? = some (q, e) := by simp
  have hq : q ∉ L := fun hm => by
    obtain ⟨k, hk⟩ := va_pl_get (X := []) (f := f) hm
    rw [List.nil_append] at hk
    have hk2 : (va_pl L f ++ [(q, e)])[k]? = some (q, f q) := by
      rw [List.getElem?_append_left (List.getElem?_eq_some_iff.mp hk).1]; exact hk
    have := hD.1 k _ _ _ hk2 hlen rfl
    exact absurd (List.getElem?_eq_some_iff.mp hk).1 (by omega)
  refine ⟨hq, hD.2 _ _ hlen, PP.of (fun b hb => ?_)⟩
  rcases List.mem_cons.mp hb with rfl | hb
  · rw [va_up_self]; exact hP _ _ hlen
  · rw [va_up_ne _ _ (fun z => hq (by rw [← z]; exact hb))]
    obtain ⟨k, hk⟩ := va_pl_get (X := []) (f := f) hb
    rw [List.nil_append] at hk
    exact hP k _ (by rw [List.getElem?_append_left (List.getElem?_eq_some_iff.mp hk).1]; exact hk)
section AL
variable {p : Program} {l : Launch} {e : Env} {R : Room} {s : State} {m : MethodId} {args : Array Value} {below : List Frame} {meth : Method} {c : Code} {H : Heap} {locs : List Loc} {cells slots : Nat} {Q : State → Prop}
variable {cc : ByteArray} {pc : Nat} {ls : Array Slot} {rest st0 : List Value} {g : GG} {L : List Nat} {f : Nat → va_E} {a : Nat} {A : Nat → Prop} {H0 : Heap} {Ts : List Cond}
theorem pg_new (hx : p.tables.exec = Jvm.exec) (hb : c.code = cc) {own C : String} {T : u_T} {N ci index : Nat} (hts : ∀ w ∈ Ts, w.before args s = true) (hin : ∀ w ∈ u_ws C T N, w ∈ Ts) (ty : Nat → FieldType) (hty : ∀ k, k < N → parseFieldDescriptor (T k).2.2.1 = some (ty k)) (hown : s.vm.findClass own = some m.cls) (hcl : (Cond.classLink own index C).before args s = true) (hinst : (Cond.instantiable C N).before args s = true) (hini : (Cond.initialized C).before args s = true)
    (hK : KK g s) (hP : PP g L f H) (hN : L.Nodup) (hA : ∀ a ∈ L, A a) (hA2 : ∀ q, H0.size ≤ q → A q) (hS : va_S A H0 H locs) (hc : vwCl[ci]? = some (C, T, N)) {fs : List Value} (hfs : ∀ j, j < N → defaultValue (ty j) = vp_V fs j) (hcells : cells + 1 ≤ R.cells) (hslots : slots + N ≤ R.slots) (hdg : decode cc pc = .ok (.new index, 3))
    (kk : ∀ (q : Nat) (H1 : Heap), q ∉ L → A q → PP g (q :: L) (va_up f q (eO ci fs)) H1 → va_S A H0 H1 locs → W p l e R s m args below meth c H1 locs (cells + 1) (slots + N) Q (F0 m (pc + 3) ls (.ref q :: rest))) : W p l e R s m args below meth c H locs cells slots Q (F0 m pc ls rest) :=
  va_new hx hb hts hin ty hty hown hcl hinst hini hK.1 hP (DD_of hN hA) hS hA2 hc hfs hcells hslots hdg (fun q H1 hP1 hD1 hS1 => by obtain ⟨a1, a2, a3⟩ := PP.grow hP1 hD1; exact kk q H1 a1 a2 a3 hS1)
theorem RA_eq {g : GG} {s : State} {cA cB : ClassId} {ty : FieldType} (h1 : va_RA s cA ty) (h2 : va_RA s cB ty) : cA = cB := by
  unfold va_RA at h1 h2
  cases ty with
  | object C =>
    obtain ⟨k1, c1, -, -, -, e1⟩ := h1
    obtain ⟨k2, c2, -, -, -, e2⟩ := h2
    exact Option.some.inj (e1.symm.trans e2)
  | _ => exact Option.some.inj (h1.symm.trans h2)
theorem pg_newaI (hx : p.tables.exec = Jvm.exec) (hb : c.code = cc) (harr : (Cond.arrayClass .int).before args s = true) (hK : KK g s) (hP : PP g L f H) (hN : L.Nodup) (hA : ∀ a ∈ L, A a) (hA2 : ∀ q, H0.size ≤ q → A q) (hS : va_S A H0 H locs)
    {n : Int32} {k : Nat} (hn : n = nI k) (hk : k < 1000) (hcells : cells + 1 ≤ R.cells) (hslots : slots + k ≤ R.slots) (hdg : decode cc pc = .ok (.newarray .int, 2))
    (kk : ∀ (q : Nat) (H1 : Heap), q ∉ L → A q → PP g (q :: L) (va_up f q (eI g k (fun _ => 0))) H1 → va_S A H0 H1 locs → W p l e R s m args below meth c H1 locs (cells + 1) (slots + k) Q (F0 m (pc + 2) ls (.ref q :: rest))) : W p l e R s m args below meth c H locs cells slots Q (F0 m pc ls (.int n :: rest)) := by
  subst hn
  refine va_newa hx hb (atype := .int) harr (ty := .int) rfl hK.1 hP (DD_of hN hA) hS hA2 (a0 := (k, .inl (fun _ => 0))) (fun _ => rfl) (nI_pos (by omega)) (nI_clamp (by omega)) (by show k * _ ≤ 536870912; refine Nat.le_trans (Nat.mul_le_mul_left k (show _ ≤ 8 by decide)) (by omega)) hcells hslots hdg (fun q cA H1 hK1 hP1 hD1 hS1 => ?_)
  obtain ⟨a1, a2, a3⟩ := PP.grow hP1 hD1
  have e1 := (hK1.2 (gT g).length (cA, .int) (by simp)).2
  have e2 := (hK.1.2 0 _ rfl).2
  have e3 := RA_eq (g := g) e1 e2
  subst e3
  exact kk q H1 a1 a2 a3 hS1
theorem pg_newaZ (hx : p.tables.exec = Jvm.exec) (hb : c.code = cc) (harr : (Cond.arrayClass .boolean).before args s = true) (hK : KK g s) (hP : PP g L f H) (hN : L.Nodup) (hA : ∀ a ∈ L, A a) (hA2 : ∀ q, H0.size ≤ q → A q) (hS : va_S A H0 H locs)
    {n : Int32} {k : Nat} (hn : n = nI k) (hk : k < 1000) (hcells : cells + 1 ≤ R.cells) (hslots : slots + k ≤ R.slots) (hdg : decode cc pc = .ok (.newarray .boolean, 2))
    (kk : ∀ (q : Nat) (H1 : Heap), q ∉ L → A q → PP g (q :: L) (va_up f q (eZ g k (fun _ => 0))) H1 → va_S A H0 H1 locs → W p l e R s m args below meth c H1 locs (cells + 1) (slots + k) Q (F0 m (pc + 2) ls (.ref q :: rest))) : W p l e R s m args below meth c H locs cells slots Q (F0 m pc ls (.int n :: rest)) := by
  subst hn
  refine va_newa hx hb (atype := .boolean) harr (ty := .boolean) rfl hK.1 hP (DD_of hN hA) hS hA2 (a0 := (k, .inl (fun _ => 0))) (fun _ => rfl) (nI_pos (by omega)) (nI_clamp (by omega)) (by show k * _ ≤ 536870912; refine Nat.le_trans (Nat.mul_le_mul_left k (show _ ≤ 8 by decide)) (by omega)) hcells hslots hdg (fun q cA H1 hK1 hP1 hD1 hS1 => ?_)
  obtain ⟨a1, a2, a3⟩ := PP.grow hP1 hD1
  have e1 := (hK1.2 (gT g).length (cA, .boolean) (by simp)).2
  have e2 := (hK.1.2 1 _ rfl).2
  have e3 := RA_eq (g := g) e1 e2
  subst e3
  exact kk q H1 a1 a2 a3 hS1
theorem pg_newV (hx : p.tables.exec = Jvm.exec) (hb : c.code = cc) {own : String} {index : Nat} (hown : s.vm.findClass own = some m.cls) (hclink : (Cond.classLink own index "BarometerLeague$Village").before args s = true) (hK : KK g s) (hP : PP g L f H) (hN : L.Nodup) (hA : ∀ a ∈ L, A a) (hA2 : ∀ q, H0.size ≤ q → A q) (hS : va_S A H0 H locs)
    {n : Int32} {k : Nat} (hn : n = nI k) (hk : k < 1000) (hcells : cells + 1 ≤ R.cells) (hslots : slots + k ≤ R.slots) (hdg : decode cc pc = .ok (.anewarray index, 3))
    (kk : ∀ (q : Nat) (H1 : Heap), q ∉ L → A q → PP g (q :: L) (va_up f q (eV g k (fun _ => none))) H1 → va_S A H0 H1 locs → W p l e R s m args below meth c H1 locs (cells + 1) (slots + k) Q (F0 m (pc + 3) ls (.ref q :: rest))) : W p l e R s m args below meth c H locs cells slots Q (F0 m pc ls (.int n :: rest)) := by
  subst hn
  refine va_newq hx hb hown hclink hK.2.2.1 hK.1 hP (DD_of hN hA) hS hA2 (nI_pos (by omega)) (nI_clamp (by omega)) (by omega) hcells hslots hdg (fun q cA H1 hK1 hP1 hD1 hS1 => ?_)
  obtain ⟨a1, a2, a3⟩ := PP.grow hP1 hD1
  have e1 := (hK1.2 (gT g).length (cA, .object "BarometerLeague$Village") (by simp)).2
  have e2 := (hK.1.2 2 _ rfl).2
  have e3 := RA_eq (g := g) e1 e2
  subst e3
  exact kk q H1 a1 a2 a3 hS1
theorem pg_newQ (hx : p.tables.exec = Jvm.exec) (hb : c.code = cc) {own : String} {index : Nat} (hown : s.vm.findClass own = some m.cls) (hclink : (Cond.classLink own index "java/lang/Object").before args s = true) (hK : KK g s) (hP : PP g L f H) (hN : L.Nodup) (hA : ∀ a ∈ L, A a) (hA2 : ∀ q, H0.size ≤ q → A q) (hS : va_S A H0 H locs)
    {n : Int32} {k : Nat} (hn : n = nI k) (hk : k < 1000) (hcells : cells + 1 ≤ R.cells) (hslots : slots + k ≤ R.slots) (hdg : decode cc pc = .ok (.anewarray index, 3))
    (kk : ∀ (q : Nat) (H1 : Heap), q ∉ L → A q → PP g (q :: L) (va_up f q (eQ g k (fun _ => none))) H1 → va_S A H0 H1 locs → W p l e R s m args below meth c H1 locs (cells + 1) (slots + k) Q (F0 m (pc + 3) ls (.ref q :: rest))) : W p l e R s m args below meth c H locs cells slots Q (F0 m pc ls (.int n :: rest)) := by
  subst hn
  refine va_newq hx hb hown hclink hK.2.2.2.1 hK.1 hP (DD_of hN hA) hS hA2 (nI_pos (by omega)) (nI_clamp (by omega)) (by omega) hcells hslots hdg (fun q cA H1 hK1 hP1 hD1 hS1 => ?_)
  obtain ⟨a1, a2, a3⟩ := PP.grow hP1 hD1
  have e1 := (hK1.2 (gT g).length (cA, .object "java/lang/Object") (by simp)).2
  have e2 := (hK.1.2 3 _ rfl).2
  have e3 := RA_eq (g := g) e1 e2
  subst e3
  exact kk q H1 a1 a2 a3 hS1
theorem pn_vast (hx : p.tables.exec = Jvm.exec) (hb : c.code = cc) (hK : KK g s) (hP : PP g L f H) (hN : L.Nodup) (hA : ∀ a ∈ L, A a) (hS : va_S A H0 H locs) (hL : a ∈ L) {n v : Nat} {h : Nat → Option Nat} (hf : f a = eV g n h) (hL2 : v ∈ L) {fs : List Value} (hv : f v = eO 2 fs) {i : Int32} {j : Nat} (hi : i = nI j) (hj : j < n) (hn : n < 2 ^ 31) (hdg : decode cc pc = .ok (.aastore, 1))
    (kk : ∀ (H1 : Heap) (locs1 : List Loc), PP g L (va_up f a (eV g n (va_up h j (some v)))) H1 → va_S A H0 H1 locs1 → W p l e R s m args below meth c H1 locs1 cells slots Q (F0 m (pc + 1) ls rest)) : W p l e R s m args below meth c H locs cells slots Q (F0 m pc ls (.ref v :: .int i :: .ref a :: rest)) := by
  obtain ⟨q0, h0⟩ := va_pl_get (X := []) (f := f) hL
  have h1 := h0
  rw [hf] at h1
  obtain ⟨q1, h2⟩ := va_pl_get (X := []) (f := f) hL2
  rw [hv] at h2
  exact va_astq hx hb hK.1 hP (DD_of hN hA) hS q0 2 q1 2 h1 rfl h2 rfl (pn_in hi hj hn).1 hdg (fun H1 locs1 hP1 _ hS1 => kk H1 locs1 (by have z := PP.set hN hL h0 hP1; rw [(pn_in hi hj hn).2] at z; exact z) hS1)
theorem pn_qast (hx : p.tables.exec = Jvm.exec) (hb : c.code = cc) (hK : KK g s) (hP : PP g L f H) (hN : L.Nodup) (hA : ∀ a ∈ L, A a) (hS : va_S A H0 H locs) (hL : a ∈ L) {n v : Nat} {h : Nat → Option Nat} (hf : f a = eQ g n h) (hL2 : v ∈ L) {fs : List Value} (hv : f v = eO 1 fs) {i : Int32} {j : Nat} (hi : i = nI j) (hj : j < n) (hn : n < 2 ^ 31) (hdg : decode cc pc = .ok (.aastore, 1))
    (kk : ∀ (H1 : Heap) (locs1 : List Loc), PP g L (va_up f a (eQ g n (va_up h j (some v)))) H1 → va_S A H0 H1 locs1 → W p l e R s m args below meth c H1 locs1 cells slots Q (F0 m (pc + 1) ls rest)) : W p l e R s m args below meth c H locs cells slots Q (F0 m pc ls (.ref v :: .int i :: .ref a :: rest)) := by
  obtain ⟨q0, h0⟩ := va_pl_get (X := []) (f := f) hL
  have h1 := h0
  rw [hf] at h1
  obtain ⟨q1, h2⟩ := va_pl_get (X := []) (f := f) hL2
  rw [hv] at h2
  exact va_astqO hx hb hK.1 hP (DD_of hN hA) hS q0 3 q1 1 h1 rfl (hK.2.1 _ (List.mem_of_getElem? (i := 69) rfl)) h2 rfl (pn_in hi hj hn).1 hdg (fun H1 locs1 hP1 _ hS1 => kk H1 locs1 (by have z := PP.set hN hL h0 hP1; rw [(pn_in hi hj hn).2] at z; exact z) hS1)
end AL
section PG
variable {p : Program} {l : Launch} {e : Env} {R : Room} {s : State} {m : MethodId} {args : Array Value} {below : List Frame} {meth : Method} {c : Code} {H : Heap} {locs : List Loc} {cells slots : Nat} {Q : State → Prop}
variable {cc : ByteArray} {pc : Nat} {ls : Array Slot} {rest st0 : List Value} {g : GG} {L : List Nat} {f : Nat → va_E} {a : Nat} {A : Nat → Prop} {H0 : Heap} {Ts : List Cond}
theorem pg_putF (hx : p.tables.exec = Jvm.exec) (hb : c.code = cc) {own ref C : String} {T : u_T} {N ci index : Nat} (hts : ∀ w ∈ Ts, w.before args s = true) (hin : ∀ w ∈ u_ws C T N, w ∈ Ts) (ty0 : Nat → FieldType) (hty : ∀ k, k < N → parseFieldDescriptor (T k).2.2.1 = some (ty0 k)) (hnm : ∀ a, a < N → ∀ b, b < N → a ≠ b → (T a).2.1 ≠ (T b).2.1) (hown : s.vm.findClass own = some m.cls) (hK : KK g s) (hP : PP g L f H) (hN : L.Nodup) (hA : ∀ a ∈ L, A a) (hS : va_S A H0 H locs) (hL : a ∈ L) {fs : List Value} (hf : f a = .inr (ci, fs)) (hc : vwCl[ci]? = some (C, T, N)) (k : Nat) (hk : k < N) (hlink : (Cond.fieldLink own index ref (T k).2.1 (T k).2.2.1).before args s = true) (hsame : ∀ x, s.fieldFound? (T k).1 (T k).2.1 (T k).2.2.1 = some x → s.fieldFound? ref (T k).2.1 (T k).2.2.1 = some x) (hfin : (T k).2.2.2 = true) (hin2 : meth.name = "<init>") (hdecl : (T k).1 = own) {ty : FieldType} {v : Value} (hd : parseFieldDescriptor (T k).2.2.1 = some ty) (hn : narrow ty v = v) (hfit : fits ty v = true) (hl : k < fs.length)
    (hdg : decode cc pc = .ok (.putfield index, 3)) (kk : ∀ (H1 : Heap) (locs1 : List Loc), PP g L (va_up f a (.inr (ci, fs.set k v))) H1 → va_S A H0 H1 locs1 → W p l e R s m args below meth c H1 locs1 cells slots Q (F0 m (pc + 3) ls rest)) : W p l e R s m args below meth c H locs cells slots Q (F0 m pc ls (v :: .ref a :: rest)) := by
  obtain ⟨q0, h0⟩ := va_pl_get (X := []) (f := f) hL
  have h1 := h0
  rw [hf] at h1
  exact va_putF hx hb hts hin ty0 hty hnm hown hK.1 hP (DD_of hN hA) hS q0 h1 hc k hk hlink hsame hfin hin2 hdecl hd hn hfit hl hdg (fun H1 locs1 hP1 _ hS1 => kk H1 locs1 (PP.set hN hL h0 hP1) hS1)
end PG
section AS
variable {l : Launch} {g : GG} {L : List Nat} {f : Nat → va_E} {y : MethodName} {ws ws' : List Cond} {fr lo mc ms t : Nat} {As : List Value} {cc : ByteArray} {maxL sz : Nat} {xc : String → Prop}
theorem AV.start {post : List Nat → (Nat → va_E) → Prop} (hy : plainFor y = true) (hw : ws = Cond.code y cc maxL none :: ws') (hn : (lg_sl As).length ≤ maxL)
    (body : ∀ (p : Program) (e : Env) (s : State) (m : MethodId) (args : Array Value) (below : List Frame) (meth : Method) (c : Code) (Q : State → Prop) (ls : Array Slot), p.tables.exec = Jvm.exec → c.code = cc → c.maxLocals = maxL → (∀ w ∈ ws, w.before args s = true) → s.vm.findClass y.cls = some m.cls → meth.name = y.name → va_S (AA L s.heap.size) s.heap s.heap [] → PP g L f s.heap → KK g s → DS t L s.heap.size s → lv_has ls maxL (lv_args 0 As) →
      (∀  (L2 : List Nat) (f2 : Nat → va_E) (H : Heap) (locs : List Loc) (k n pc : Nat) (ls : Array Slot), GR L L2 s.heap.size → post L2 f2 → PP g L2 f2 H → va_S (AA L s.heap.size) s.heap H locs → k ≤ mc → n ≤ ms → decode cc pc = .ok (.return_, 1) → W p l e ({ frames := fr, cells := mc, slots := ms, locals := lo } : Room) s m args below meth c H locs k n Q (F0 m pc ls [])) →
      W p l e ({ frames := fr, cells := mc, slots := ms, locals := lo } : Room) s m args below meth c s.heap [] 0 0 Q (F0 m 0 ls [])) : AV l g y ws fr lo mc ms t L f sz As post := by
  refine ofWF (cc := cc) (maxL := maxL) (ret := none) hy hw ?_
  intro p e s m args below meth c s₁ B hml hv
  obtain ⟨rfl, hsz, hP, hK, hD⟩ := hv
  subst hsz
  have hl := lv_entry As (n := maxL) hn
  rw [lg_entry_eq]
  have hlk := B.notSynchronized
  exact body p e s m _ below meth c _ _ B.exec B.bytes hml (atoms_spec (ws := ws) B.pre) (findClass_of_methodNamed B.named) (name_of_methodNamed B.named B.method).1 va_S.rf hP hK hD hl (fun L2 f2 H locs k n pc ls hG hp hP2 hS hk hn hd => W.widen hk hn (W.vret B.exec B.bytes B.returns (fun T ht hW => ⟨⟨(L2, f2), rfl, ⟨hG, hp⟩, by dsimp only; rw [ht]; exact hP2⟩, hS.F ht⟩) hS.2.2 hd hlk))
theorem AW.start {ret : FieldType} {post : Int32 → List Nat → (Nat → va_E) → Prop} (hy : plainFor y = true) (hw : ws = Cond.code y cc maxL (some ret) :: ws') (hn : (lg_sl As).length ≤ maxL)
    (body : ∀ (p : Program) (e : Env) (s : State) (m : MethodId) (args : Array Value) (below : List Frame) (meth : Method) (c : Code) (Q : State → Prop) (ls : Array Slot), p.tables.exec = Jvm.exec → c.code = cc → c.maxLocals = maxL → (∀ w ∈ ws, w.before args s = true) → s.vm.findClass y.cls = some m.cls → meth.name = y.name → va_S (AA L s.heap.size) s.heap s.heap [] → PP g L f s.heap → KK g s → DS t L s.heap.size s → lv_has ls maxL (lv_args 0 As) →
      (∀ (v : Int32) (L2 : List Nat) (f2 : Nat → va_E) (H : Heap) (locs : List Loc) (k n pc : Nat) (ls : Array Slot), GR L L2 s.heap.size → post v L2 f2 → PP g L2 f2 H → va_S (AA L s.heap.size) s.heap H locs → narrow ret (.int v) = .int v → k ≤ mc → n ≤ ms → decode cc pc = .ok (.ireturn, 1) → W p l e ({ frames := fr, cells := mc, slots := ms, locals := lo } : Room) s m args below meth c H locs k n Q (F0 m pc ls [.int v])) →
      W p l e ({ frames := fr, cells := mc, slots := ms, locals := lo } : Room) s m args below meth c s.heap [] 0 0 Q (F0 m 0 ls [])) : AW l g y ws fr lo mc ms t L f sz As post := by
  refine ofWF (cc := cc) (maxL := maxL) (ret := (some ret)) hy hw ?_
  intro p e s m args below meth c s₁ B hml hv
  obtain ⟨rfl, hsz, hP, hK, hD⟩ := hv
  subst hsz
  have hl := lv_entry As (n := maxL) hn
  rw [lg_entry_eq]
  have hlk := B.notSynchronized
  exact body p e s m _ below meth c _ _ B.exec B.bytes hml (atoms_spec (ws := ws) B.pre) (findClass_of_methodNamed B.named) (name_of_methodNamed B.named B.method).1 va_S.rf hP hK hD hl (fun v L2 f2 H locs k n pc ls hG hp hP2 hS hnr hk hn hd => W.widen hk hn (W.zret (ty := ret) B.exec B.bytes B.returns hnr (fun T ht hW => ⟨⟨v, (L2, f2), rfl, ⟨hG, hp⟩, by dsimp only; rw [ht]; exact hP2⟩, hS.F ht⟩) hS.2.2 hd hlk))
theorem AR.start {ret : FieldType} {post : Nat → List Nat → (Nat → va_E) → Prop} (hy : plainFor y = true) (hw : ws = Cond.code y cc maxL (some ret) :: ws') (hn : (lg_sl As).length ≤ maxL) (hrt : (∃ n, ret = .object n) ∨ ∃ t, ret = .array t)
    (body : ∀ (p : Program) (e : Env) (s : State) (m : MethodId) (args : Array Value) (below : List Frame) (meth : Method) (c : Code) (Q : State → Prop) (ls : Array Slot), p.tables.exec = Jvm.exec → c.code = cc → c.maxLocals = maxL → (∀ w ∈ ws, w.before args s = true) → s.vm.findClass y.cls = some m.cls → meth.name = y.name → va_S (AA L s.heap.size) s.heap s.heap [] → PP g L f s.heap → KK g s → DS t L s.heap.size s → lv_has ls maxL (lv_args 0 As) →
      (∀ (v : Nat) (L2 : List Nat) (f2 : Nat → va_E) (H : Heap) (locs : List Loc) (k n pc : Nat) (ls : Array Slot), GR L L2 s.heap.size → post v L2 f2 → PP g L2 f2 H → va_S (AA L s.heap.size) s.heap H locs → k ≤ mc → n ≤ ms → decode cc pc = .ok (.areturn, 1) → W p l e ({ frames := fr, cells := mc, slots := ms, locals := lo } : Room) s m args below meth c H locs k n Q (F0 m pc ls [.ref v])) →
      W p l e ({ frames := fr, cells := mc, slots := ms, locals := lo } : Room) s m args below meth c s.heap [] 0 0 Q (F0 m 0 ls [])) : AR l g y ws fr lo mc ms t L f sz As post := by
  refine ofWF (cc := cc) (maxL := maxL) (ret := (some ret)) hy hw ?_
  intro p e s m args below meth c s₁ B hml hv
  obtain ⟨rfl, hsz, hP, hK, hD⟩ := hv
  subst hsz
  have hl := lv_entry As (n := maxL) hn
  rw [lg_entry_eq]
  have hlk := B.notSynchronized
  exact body p e s m _ below meth c _ _ B.exec B.bytes hml (atoms_spec (ws := ws) B.pre) (findClass_of_methodNamed B.named) (name_of_methodNamed B.named B.method).1 va_S.rf hP hK hD hl (fun v L2 f2 H locs k n pc ls hG hp hP2 hS hk hn hd => W.widen hk hn (W.aret B.exec B.bytes B.returns hrt (Or.inr ⟨_, rfl⟩) (fun T ht hW => ⟨⟨(v, L2, f2), v, rfl, ⟨hG, hp⟩, rfl, by dsimp only; rw [ht]; exact hP2⟩, hS.F ht⟩) hS.2.2 hd hlk))
theorem TA.start {ret : FieldType} {post : Int32 → List Nat → (Nat → va_E) → Prop} (hst : l.stackTraces = false) (hy : plainName y.cls = true) (hw : ws = Cond.code y cc maxL (some ret) :: ws') (hn : (lg_sl As).length ≤ maxL) (hfr : 6 ≤ fr) (hlo : 90 ≤ lo)
    (body : ∀ (p : Program) (e : Env) (s : State) (m : MethodId) (args : Array Value) (below : List Frame) (meth : Method) (c : Code) (Q : State → Prop) (ls : Array Slot), p.tables.exec = Jvm.exec → c.code = cc → c.maxLocals = maxL → (∀ w ∈ ws, w.before args s = true) → s.vm.findClass y.cls = some m.cls → va_S (AA L s.heap.size) s.heap s.heap [] → PP g L f s.heap → KK g s → ZZ L s.heap.size s → DS t L s.heap.size s → lv_has ls maxL (lv_args 0 As) →
      (∀ (v : Int32) (L2 : List Nat) (f2 : Nat → va_E) (H : Heap) (locs : List Loc) (k n pc : Nat) (ls : Array Slot), GR L L2 s.heap.size → post v L2 f2 → PP g L2 f2 H → va_S (AA L s.heap.size) s.heap H locs → narrow ret (.int v) = .int v → k ≤ mc → n ≤ ms → decode cc pc = .ok (.ireturn, 1) → W p l e ({ frames := fr, cells := mc, slots := ms, locals := lo } : Room) s m args below meth c H locs k n Q (F0 m pc ls [.int v])) →
      (∀ (X text : String) (k j ik is ic : Nat) (H : Heap) (locs : List Loc) (cells slots pc : Nat) (ls : Array Slot), xc X → PP g L f H → va_S (AA L s.heap.size) s.heap H locs → cells + 1 ≤ mc → slots + 6 ≤ ms → Bundle.fit X = true → nestW[k]? = some (.castable X X) → strW[j]? = some (y.cls, is, text) → (Cond.classLink y.cls ik X).before args s = true → (Cond.initialized X).before args s = true →
        (∀ w ∈ (vx_atS y.cls ic X xN).filter goodWord, w ∈ ws) → (∀ w ∈ (vx_atS y.cls ic X xN).filter (fun w => !goodWord w), w ∈ xB X) → (∀ w ∈ Cond.classLink y.cls ik X :: Cond.initialized X :: vx_atS y.cls ic X xN, vx_ot w = true) → ls.size = maxL → ThrowAt cc ik is ic pc →
        W p l e ({ frames := fr, cells := mc, slots := ms, locals := lo } : Room) s m args below meth c H locs cells slots Q (F0 m pc ls [])) →
      (∀ (E : String) (ce : Cell) (q9 : Addr) (H : Heap) (locs : List Loc) (cells slots pc : Nat) (ls : Array Slot) (rest : List Value), xc E → PP g L f H → va_S (AA L s.heap.size) s.heap H locs → H[q9]? = some ce → ce.vm = .none → s.vm.findClass E = some ce.cls → cells ≤ mc → slots ≤ ms → vx_W p l e ({ frames := fr, cells := mc, slots := ms, locals := lo } : Room) s m args below meth c H locs cells slots Q (F0 m pc ls rest) q9) →
      W p l e ({ frames := fr, cells := mc, slots := ms, locals := lo } : Room) s m args below meth c s.heap [] 0 0 Q (F0 m 0 ls [])) : TA l g y ws fr lo mc ms t L f sz As post xc := by
  refine vx_ofW (cc := cc) (maxL := maxL) (ret := (some ret)) hy hw ?_
  intro p e s m args below meth c s₁ B hml hno hv
  obtain ⟨rfl, ⟨hsz, hP, hK, hZ⟩, hD⟩ := hv
  subst hsz
  have hl := lv_entry As (n := maxL) hn
  rw [lg_entry_eq]
  have hlk := B.notSynchronized
  have hts := atoms_spec (ws := ws) B.pre
  have hown := findClass_of_methodNamed B.named
  refine body p e s m _ below meth c _ _ B.exec B.bytes hml hts hown va_S.rf hP hK hZ hD hl ?_ ?_ ?_
  · exact fun v L2 f2 H locs k n pc ls hG hp hP2 hS hnr hk hn hd => W.widen hk hn (vx_ret (W.zret (ty := ret) B.exec B.bytes B.returns hnr (fun T ht hW => ⟨⟨v, (L2, f2), rfl, ⟨hG, hp⟩, by dsimp only; rw [ht]; exact hP2⟩, hS.F ht⟩) hS.2.2 hd hlk))
  · intro X text k j ik is ic H locs cells slots pc ls hxc hP2 hS hc hs hfit hk hj hkl hini hat1 hat2 hgood hsize hd
    obtain ⟨sa, hstr⟩ := hZ.2.2 _ (List.mem_of_getElem? hj)
    obtain ⟨d0, d3, d4, d6, d9⟩ := hd
    exact vx_throwS B.exec B.bytes hst hown hfit (by decide) hkl hini hstr (tx_hat hK hk (fun w hw => hts w (hat1 w hw)) hat2) hgood hZ.1 hZ.2.1 hS (hsize.trans hml.symm) d0 d3 d4 d6 d9 (fun x hx => (hno x hx).elim) (by show 2 + 3 < fr; omega) (by show 0 + (13 * (2 + 1) + 43) ≤ lo; omega) hc hs hlk
      (fun t _ h2 h3 => ⟨(), trivial, ⟨hxc, PP.kept hP2 (fun a ha => h3 a (hP2.lt ha))⟩, ⟨Nat.le_trans hS.1 h2, fun q q1 q2 => (h3 q (Nat.lt_of_lt_of_le q1 hS.1)).trans (hS.2.1 q q1 q2)⟩⟩) hS.2.2 hc hs
  · intro E ce q9 H locs cells slots pc ls rest hxc hP2 hS hcell hv hcl hk hn
    exact vx_out (fun x hx => (hno x hx).elim) hlk hcell hv hcl (fun t ht _ => ⟨(), trivial, ⟨hxc, by rw [ht]; exact hP2⟩, hS.F ht⟩) hS.2.2 hk hn
end AS
section AC
variable {p : Program} {l : Launch} {e : Env} {R : Room} {s : State} {m : MethodId} {args : Array Value} {below : List Frame} {meth : Method} {c : Code} {H : Heap} {locs : List Loc} {cells slots : Nat} {Q : State → Prop}
variable {cc : ByteArray} {pc : Nat} {ls : Array Slot} {rest st0 : List Value} {g : GG} {L L0 : List Nat} {f : Nat → va_E} {b t : Nat} {Ts ws : List Cond} {own C host : String} {y : MethodName} {bytes : ByteArray} {maxL nL n index fr lo mc ms : Nat} {ret : Option FieldType} {As : List Value} {xc : String → Prop}
theorem av_V (S : CallFix p m c cc nL s args Ts own) {post : List Nat → (Nat → va_E) → Prop} (hM : AV l g y ws fr lo mc ms t L f H.size (.ref b :: As) post) (cw : CallW R s args own C index y bytes maxL ret ws ({ frames := fr, cells := mc, slots := ms, locals := lo }) mc ms n) (hK : KK g s) (hDS : DS t L0 s.heap.size s) (hP : PP g L f H) (hA : ∀ a ∈ L, AA L0 s.heap.size a) (hS : va_S (AA L0 s.heap.size) s.heap H locs) (hL : b ∈ L) {ci : Nat} {fs : List Value} {T : u_T} {N : Nat} (hf : f b = .inr (ci, fs)) (hc : vwCl[ci]? = some (C, T, N))
    (hn : As.length = n) (hsize : ls.size = nL) (hstack : st0 = As.reverse ++ .ref b :: rest) (hW : (rest.map fun v => v.category).sum ≤ 8) (hdg : decode cc pc = .ok (.invokevirtual index, 3)) (hcs : cells + mc ≤ R.cells ∧ slots + ms ≤ R.slots)
    (kk : ∀ (L2 : List Nat) (f2 : Nat → va_E) (H1 : Heap) (locs1 : List Loc), GR L L2 H.size → post L2 f2 → PP g L2 f2 H1 → va_S (AA L0 s.heap.size) s.heap H1 locs1 → (∀ a ∈ L2, AA L0 s.heap.size a) → W p l e R s m args below meth c H1 locs1 (cells + mc) (slots + ms) Q (F0 m (pc + 3) ls (rest))) : W p l e R s m args below meth c H locs cells slots Q (F0 m pc ls st0) :=
  va_callv (va_runV S hM cw ⟨dp_blind, pg_recv hK hP hL hf hc, fun U hU hW => ⟨rfl, by rw [hU], by rw [hU]; exact hP, KK.warm hW hK, DS.step hDS hS hU hW hA⟩⟩ rfl hn hsize hstack (lv_room hW) hdg hcs) hS (AA_old hA) (AA_free hA (fun _ h => Or.inr h) hS) (fun u T H1 locs1 ht _ hw hB _ _ hS1 => kk u.1 u.2 H1 locs1 hw.1 hw.2 (by rw [← ht]; exact hB) hS1 (fun a ha => AA_free hA (fun _ h => Or.inr h) hS a (hw.1.2.2 a ha)))
theorem av_I (S : CallFix p m c cc nL s args Ts own) {post : List Nat → (Nat → va_E) → Prop} (hM : AV l g y ws fr lo mc ms t L f H.size (.ref b :: As) post) (cw : CallB R s args own index y bytes maxL none ws ({ frames := fr, cells := mc, slots := ms, locals := lo }) mc ms n ∧ y.name = "<init>" ∧ (Cond.instanceMethod y).before args s = true) (hK : KK g s) (hDS : DS t L0 s.heap.size s) (hP : PP g L f H) (hA : ∀ a ∈ L, AA L0 s.heap.size a) (hS : va_S (AA L0 s.heap.size) s.heap H locs)
    (hn : As.length = n) (hsize : ls.size = nL) (hstack : st0 = As.reverse ++ .ref b :: rest) (hW : (rest.map fun v => v.category).sum ≤ 8) (hdg : decode cc pc = .ok (.invokespecial index, 3)) (hcs : cells + mc ≤ R.cells ∧ slots + ms ≤ R.slots)
    (kk : ∀ (L2 : List Nat) (f2 : Nat → va_E) (H1 : Heap) (locs1 : List Loc), GR L L2 H.size → post L2 f2 → PP g L2 f2 H1 → va_S (AA L0 s.heap.size) s.heap H1 locs1 → (∀ a ∈ L2, AA L0 s.heap.size a) → W p l e R s m args below meth c H1 locs1 (cells + mc) (slots + ms) Q (F0 m (pc + 3) ls (rest))) : W p l e R s m args below meth c H locs cells slots Q (F0 m pc ls st0) :=
  va_callv (va_runI S hM cw ⟨dp_blind, fun U hU hW => ⟨rfl, by rw [hU], by rw [hU]; exact hP, KK.warm hW hK, DS.step hDS hS hU hW hA⟩⟩ rfl hn hsize hstack (lv_room hW) hdg hcs) hS (AA_old hA) (AA_free hA (fun _ h => Or.inr h) hS) (fun u T H1 locs1 ht _ hw hB _ _ hS1 => kk u.1 u.2 H1 locs1 hw.1 hw.2 (by rw [← ht]; exact hB) hS1 (fun a ha => AA_free hA (fun _ h => Or.inr h) hS a (hw.1.2.2 a ha)))
theorem av_N (S : CallFix p m c cc nL s args Ts own) {post : List Nat → (Nat → va_E) → Prop} (hM : AV l g y ws fr lo mc ms t L f H.size (.ref b :: As) post) (cw : va_CN R s args own index y host bytes maxL none ws ({ frames := fr, cells := mc, slots := ms, locals := lo }) mc ms n ∧ y.name = "<init>" ∧ (Cond.instanceMethod y).before args s = true) (hK : KK g s) (hDS : DS t L0 s.heap.size s) (hP : PP g L f H) (hA : ∀ a ∈ L, AA L0 s.heap.size a) (hS : va_S (AA L0 s.heap.size) s.heap H locs)
    (hn : As.length = n) (hsize : ls.size = nL) (hstack : st0 = As.reverse ++ .ref b :: rest) (hW : (rest.map fun v => v.category).sum ≤ 8) (hdg : decode cc pc = .ok (.invokespecial index, 3)) (hcs : cells + mc ≤ R.cells ∧ slots + ms ≤ R.slots)
    (kk : ∀ (L2 : List Nat) (f2 : Nat → va_E) (H1 : Heap) (locs1 : List Loc), GR L L2 H.size → post L2 f2 → PP g L2 f2 H1 → va_S (AA L0 s.heap.size) s.heap H1 locs1 → (∀ a ∈ L2, AA L0 s.heap.size a) → W p l e R s m args below meth c H1 locs1 (cells + mc) (slots + ms) Q (F0 m (pc + 3) ls (rest))) : W p l e R s m args below meth c H locs cells slots Q (F0 m pc ls st0) :=
  va_callv (va_runIN S hM cw ⟨dp_blind, fun U hU hW => ⟨rfl, by rw [hU], by rw [hU]; exact hP, KK.warm hW hK, DS.step hDS hS hU hW hA⟩⟩ rfl hn hsize hstack (lv_room hW) hdg hcs) hS (AA_old hA) (AA_free hA (fun _ h => Or.inr h) hS) (fun u T H1 locs1 ht _ hw hB _ _ hS1 => kk u.1 u.2 H1 locs1 hw.1 hw.2 (by rw [← ht]; exact hB) hS1 (fun a ha => AA_free hA (fun _ h => Or.inr h) hS a (hw.1.2.2 a ha)))
theorem aw_V (S : CallFix p m c cc nL s args Ts own) {post : Int32 → List Nat → (Nat → va_E) → Prop} (hM : AW l g y ws fr lo mc ms t L f H.size (.ref b :: As) post) (cw : CallW R s args own C index y bytes maxL ret ws ({ frames := fr, cells := mc, slots := ms, locals := lo }) mc ms n) (hK : KK g s) (hDS : DS t L0 s.heap.size s) (hP : PP g L f H) (hA : ∀ a ∈ L, AA L0 s.heap.size a) (hS : va_S (AA L0 s.heap.size) s.heap H locs) (hL : b ∈ L) {ci : Nat} {fs : List Value} {T : u_T} {N : Nat} (hf : f b = .inr (ci, fs)) (hc : vwCl[ci]? = some (C, T, N))
    (hn : As.length = n) (hsize : ls.size = nL) (hstack : st0 = As.reverse ++ .ref b :: rest) (hW : (rest.map fun v => v.category).sum ≤ 8) (hdg : decode cc pc = .ok (.invokevirtual index, 3)) (hcs : cells + mc ≤ R.cells ∧ slots + ms ≤ R.slots)
    (kk : ∀ (r : Int32) (L2 : List Nat) (f2 : Nat → va_E) (H1 : Heap) (locs1 : List Loc), GR L L2 H.size → post r L2 f2 → PP g L2 f2 H1 → va_S (AA L0 s.heap.size) s.heap H1 locs1 → (∀ a ∈ L2, AA L0 s.heap.size a) → W p l e R s m args below meth c H1 locs1 (cells + mc) (slots + ms) Q (F0 m (pc + 3) ls (.int r :: rest))) : W p l e R s m args below meth c H locs cells slots Q (F0 m pc ls st0) :=
  va_calli (va_runV S hM cw ⟨dp_blind, pg_recv hK hP hL hf hc, fun U hU hW => ⟨rfl, by rw [hU], by rw [hU]; exact hP, KK.warm hW hK, DS.step hDS hS hU hW hA⟩⟩ rfl hn hsize hstack (lv_room hW) hdg hcs) hS (AA_old hA) (AA_free hA (fun _ h => Or.inr h) hS) (fun r u T H1 locs1 ht _ hw hB _ _ hS1 => kk r u.1 u.2 H1 locs1 hw.1 hw.2 (by rw [← ht]; exact hB) hS1 (fun a ha => AA_free hA (fun _ h => Or.inr h) hS a (hw.1.2.2 a ha)))
theorem ar_V (S : CallFix p m c cc nL s args Ts own) {post : Nat → List Nat → (Nat → va_E) → Prop} (hM : AR l g y ws fr lo mc ms t L f H.size (.ref b :: As) post) (cw : CallW R s args own C index y bytes maxL ret ws ({ frames := fr, cells := mc, slots := ms, locals := lo }) mc ms n) (hK : KK g s) (hDS : DS t L0 s.heap.size s) (hP : PP g L f H) (hA : ∀ a ∈ L, AA L0 s.heap.size a) (hS : va_S (AA L0 s.heap.size) s.heap H locs) (hL : b ∈ L) {ci : Nat} {fs : List Value} {T : u_T} {N : Nat} (hf : f b = .inr (ci, fs)) (hc : vwCl[ci]? = some (C, T, N))
    (hn : As.length = n) (hsize : ls.size = nL) (hstack : st0 = As.reverse ++ .ref b :: rest) (hW : (rest.map fun v => v.category).sum ≤ 8) (hdg : decode cc pc = .ok (.invokevirtual index, 3)) (hcs : cells + mc ≤ R.cells ∧ slots + ms ≤ R.slots)
    (kk : ∀ (r : Nat) (L2 : List Nat) (f2 : Nat → va_E) (H1 : Heap) (locs1 : List Loc), GR L L2 H.size → post r L2 f2 → PP g L2 f2 H1 → va_S (AA L0 s.heap.size) s.heap H1 locs1 → (∀ a ∈ L2, AA L0 s.heap.size a) → W p l e R s m args below meth c H1 locs1 (cells + mc) (slots + ms) Q (F0 m (pc + 3) ls (.ref r :: rest))) : W p l e R s m args below meth c H locs cells slots Q (F0 m pc ls st0) :=
  va_callr (va_runV S hM cw ⟨dp_blind, pg_recv hK hP hL hf hc, fun U hU hW => ⟨rfl, by rw [hU], by rw [hU]; exact hP, KK.warm hW hK, DS.step hDS hS hU hW hA⟩⟩ rfl hn hsize hstack (lv_room hW) hdg hcs) hS (AA_old hA) (AA_free hA (fun _ h => Or.inr h) hS) (fun u ra T H1 locs1 ht _ hw hB _ _ hS1 => by obtain ⟨rfl, hB⟩ := hB; exact kk u.1 u.2.1 u.2.2 H1 locs1 hw.1 hw.2 (by rw [← ht]; exact hB) hS1 (fun a ha => AA_free hA (fun _ h => Or.inr h) hS a (hw.1.2.2 a ha)))
theorem ta_V (S : CallFix p m c cc nL s args Ts own) {post : Int32 → List Nat → (Nat → va_E) → Prop} (hM : TA l g y ws fr lo mc ms t L f H.size (.ref b :: As) post xc) (cw : CallW R s args own C index y bytes maxL ret ws ({ frames := fr, cells := mc, slots := ms, locals := lo }) mc ms n) (hK : KK g s) (hZ : ZZ L0 s.heap.size s) (hDS : DS t L0 s.heap.size s) (hP : PP g L f H) (hA : ∀ a ∈ L, AA L0 s.heap.size a) (hS : va_S (AA L0 s.heap.size) s.heap H locs) (hL : b ∈ L) {ci : Nat} {fs : List Value} {T : u_T} {N : Nat} (hf : f b = .inr (ci, fs)) (hc : vwCl[ci]? = some (C, T, N))
    (hn : As.length = n) (hsize : ls.size = nL) (hstack : st0 = As.reverse ++ .ref b :: rest) (hW : (rest.map fun v => v.category).sum ≤ 8) (hdg : decode cc pc = .ok (.invokevirtual index, 3)) (hcs : cells + mc ≤ R.cells ∧ slots + ms ≤ R.slots)
    (kx : ∀ (E : String) (ce : Cell) (q9 : Addr) (H1 : Heap) (locs1 : List Loc), xc E → PP g L f H1 → va_S (AA L0 s.heap.size) s.heap H1 locs1 → H1[q9]? = some ce → ce.vm = .none → s.vm.findClass E = some ce.cls → vx_W p l e R s m args below meth c H1 locs1 (cells + mc) (slots + ms) Q (F0 m pc ls rest) q9)
    (kk : ∀ (r : Int32) (L2 : List Nat) (f2 : Nat → va_E) (H1 : Heap) (locs1 : List Loc), GR L L2 H.size → post r L2 f2 → PP g L2 f2 H1 → va_S (AA L0 s.heap.size) s.heap H1 locs1 → (∀ a ∈ L2, AA L0 s.heap.size a) → W p l e R s m args below meth c H1 locs1 (cells + mc) (slots + ms) Q (F0 m (pc + 3) ls (.int r :: rest))) : W p l e R s m args below meth c H locs cells slots Q (F0 m pc ls st0) :=
  vx_calli (vx_runV S hM cw ⟨ta_blind, pg_recv hK hP hL hf hc, fun U hU hW => ⟨rfl, ⟨by rw [hU], by rw [hU]; exact hP, KK.warm hW hK, ZZ.step2 hZ hS hU hW hA⟩, DS.step hDS hS hU hW hA⟩⟩ rfl hn hsize hstack (lv_room hW) hdg hcs) hS (AA_old hA) (AA_free hA (fun _ h => Or.inr h) hS) (AA_old hA) (fun E ce q9 u t H1 locs1 ht _ _ hB _ _ hS1 h1 h2 h3 => kx E ce q9 H1 locs1 hB.1 (by rw [← ht]; exact hB.2) hS1 h1 h2 h3) (fun r u T H1 locs1 ht _ hw hB _ _ hS1 => kk r u.1 u.2 H1 locs1 hw.1 hw.2 (by rw [← ht]; exact hB) hS1 (fun a ha => AA_free hA (fun _ h => Or.inr h) hS a (hw.1.2.2 a ha)))
end AC
