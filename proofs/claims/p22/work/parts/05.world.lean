/-! ===== the world: cells by their addresses; f a is what lies at a ===== -/
abbrev GG : Type := va_G × (ClassId × ClassId × ClassId × ClassId × ClassId)
abbrev gI (g : GG) : ClassId := g.2.1
abbrev gZ (g : GG) : ClassId := g.2.2.1
abbrev gV (g : GG) : ClassId := g.2.2.2.1
abbrev gO (g : GG) : ClassId := g.2.2.2.2.1
abbrev gR (g : GG) : ClassId := g.2.2.2.2.2
abbrev gT (g : GG) : List (ClassId × FieldType) := [(gI g, .int), (gZ g, .boolean), (gV g, .object "BarometerLeague$Village"), (gO g, .object "java/lang/Object"), (gR g, .array .int)]
/-- the words that are kept, but not as a method's own: private fields of a nest mate, casts -/
def nestW : List Cond := [.fieldLinkNest "BarometerLeague$VillageRow" 51 "BarometerLeague$Village" "points" "I" "BarometerLeague", .fieldLinkNest "BarometerLeague" 152 "BarometerLeague$Village" "points" "I" "BarometerLeague", .fieldLinkNest "BarometerLeague" 116 "BarometerLeague$Village" "coins" "I" "BarometerLeague", .fieldLinkNest "BarometerLeague$VillageRow" 54 "BarometerLeague$Village" "coins" "I" "BarometerLeague", .fieldLinkNest "BarometerLeague" 155 "BarometerLeague$Village" "rowOfHits" "I" "BarometerLeague", .fieldLinkNest "BarometerLeague" 139 "BarometerLeague$Sign" "kind" "I" "BarometerLeague", .fieldLinkNest "BarometerLeague" 142 "BarometerLeague$Sign" "number" "I" "BarometerLeague", .methodLinkNest "BarometerLeagueLaw" 73 ⟨"BarometerLeagueLaw$Sim", "<init>", "()V"⟩ "BarometerLeagueLaw", .castable "java/lang/IndexOutOfBoundsException" "java/lang/IndexOutOfBoundsException", .castable "java/lang/IndexOutOfBoundsException" "java/lang/IndexOutOfBoundsException", .castable "java/lang/IndexOutOfBoundsException" "java/lang/IndexOutOfBoundsException", .castable "java/lang/IndexOutOfBoundsException" "java/lang/IndexOutOfBoundsException", .castable "java/lang/IndexOutOfBoundsException" "java/lang/IndexOutOfBoundsException", .castable "java/lang/IndexOutOfBoundsException" "java/lang/IndexOutOfBoundsException", .castable "java/lang/IndexOutOfBoundsException" "java/lang/IndexOutOfBoundsException", .castable "java/lang/IndexOutOfBoundsException" "java/lang/IndexOutOfBoundsException", .castable "java/lang/IndexOutOfBoundsException" "java/lang/IndexOutOfBoundsException", .castable "java/lang/IndexOutOfBoundsException" "java/lang/IndexOutOfBoundsException", .castable "java/lang/IndexOutOfBoundsException" "java/lang/IndexOutOfBoundsException", .castable "java/lang/IndexOutOfBoundsException" "java/lang/IndexOutOfBoundsException", .castable "java/lang/IndexOutOfBoundsException" "java/lang/IndexOutOfBoundsException", .castable "java/lang/IndexOutOfBoundsException" "java/lang/IndexOutOfBoundsException", .castable "java/lang/IndexOutOfBoundsException" "java/lang/IndexOutOfBoundsException", .castable "java/lang/IndexOutOfBoundsException" "java/lang/IndexOutOfBoundsException", .castable "java/lang/IndexOutOfBoundsException" "java/lang/IndexOutOfBoundsException", .castable "java/lang/IndexOutOfBoundsException" "java/lang/IndexOutOfBoundsException", .castable "java/lang/IndexOutOfBoundsException" "java/lang/IndexOutOfBoundsException", .castable "java/lang/IndexOutOfBoundsException" "java/lang/IndexOutOfBoundsException", .castable "java/lang/IndexOutOfBoundsException" "java/lang/IndexOutOfBoundsException", .castable "java/lang/IndexOutOfBoundsException" "java/lang/IndexOutOfBoundsException", .castable "java/lang/IndexOutOfBoundsException" "java/lang/IndexOutOfBoundsException", .castable "java/lang/IndexOutOfBoundsException" "java/lang/IndexOutOfBoundsException", .castable "java/lang/IndexOutOfBoundsException" "java/lang/IndexOutOfBoundsException", .castable "java/lang/IndexOutOfBoundsException" "java/lang/IndexOutOfBoundsException", .castable "java/lang/IndexOutOfBoundsException" "java/lang/IndexOutOfBoundsException", .castable "java/lang/IndexOutOfBoundsException" "java/lang/IndexOutOfBoundsException", .castable "java/lang/IndexOutOfBoundsException" "java/lang/IndexOutOfBoundsException", .castable "java/lang/IndexOutOfBoundsException" "java/lang/IndexOutOfBoundsException", .castable "java/lang/IndexOutOfBoundsException" "java/lang/IndexOutOfBoundsException", .castable "java/lang/IndexOutOfBoundsException" "java/lang/IndexOutOfBoundsException", .castable "java/lang/IndexOutOfBoundsException" "java/lang/IndexOutOfBoundsException", .castable "java/lang/IndexOutOfBoundsException" "java/lang/IndexOutOfBoundsException", .castable "java/lang/IndexOutOfBoundsException" "java/lang/IndexOutOfBoundsException", .castable "java/lang/IndexOutOfBoundsException" "java/lang/IndexOutOfBoundsException", .castable "java/lang/IndexOutOfBoundsException" "java/lang/IndexOutOfBoundsException", .castable "java/lang/IndexOutOfBoundsException" "java/lang/IndexOutOfBoundsException", .castable "java/lang/IndexOutOfBoundsException" "java/lang/IndexOutOfBoundsException", .castable "java/lang/IndexOutOfBoundsException" "java/lang/IndexOutOfBoundsException", .castable "java/lang/IndexOutOfBoundsException" "java/lang/IndexOutOfBoundsException", .castable "java/lang/IndexOutOfBoundsException" "java/lang/IndexOutOfBoundsException", .castable "java/lang/IndexOutOfBoundsException" "java/lang/IndexOutOfBoundsException", .castable "java/lang/IndexOutOfBoundsException" "java/lang/IndexOutOfBoundsException", .castable "java/lang/IndexOutOfBoundsException" "java/lang/IndexOutOfBoundsException", .castable "java/lang/IndexOutOfBoundsException" "java/lang/IndexOutOfBoundsException", .castable "java/lang/IndexOutOfBoundsException" "java/lang/IndexOutOfBoundsException", .castable "java/lang/IndexOutOfBoundsException" "java/lang/IndexOutOfBoundsException", .castable "java/lang/IndexOutOfBoundsException" "java/lang/IndexOutOfBoundsException", .castable "java/lang/IllegalArgumentException" "java/lang/IllegalArgumentException", .castable "java/lang/IllegalStateException" "java/lang/IllegalStateException", .castable "BarometerLeague$Village" "java/lang/Object", .castable "BarometerLeague" "java/lang/Object", .castable "BarometerLeague$Weather" "java/lang/Object", .castable "java/util/ArrayList" "java/lang/Object", .castable "BarometerLeague$VillageRow" "java/lang/Object", .castable "BarometerLeagueLaw$Sim" "java/lang/Object", .castable "java/lang/IndexOutOfBoundsException" "java/lang/IndexOutOfBoundsException", .castable "java/lang/IndexOutOfBoundsException" "java/lang/Object", .castable "java/lang/IllegalArgumentException" "java/lang/Object", .castable "java/lang/IllegalStateException" "java/lang/Object", .castable "BarometerLeague$Sign" "java/lang/Object", .castable "java/lang/Throwable" "java/lang/Object", .castable "java/lang/String" "java/lang/Object", .castable "[I" "java/lang/Object", .castable "[Z" "java/lang/Object", .castable "[LBarometerLeague$Village;" "java/lang/Object", .castable "[B" "java/lang/Object", .castable "[Ljava/lang/Object;" "java/lang/Object", .castable "java/lang/IndexOutOfBoundsException" "java/lang/IndexOutOfBoundsException", .declares ⟨"java/lang/RuntimeException", "<init>", "(Ljava/lang/String;)V"⟩, .declares ⟨"java/lang/Exception", "<init>", "(Ljava/lang/String;)V"⟩, .declares ⟨"java/lang/Throwable", "<init>", "(Ljava/lang/String;)V"⟩]
def nwB : Cond → Bool
  | .fieldLinkNest _ _ _ _ _ _ => true
  | .methodLinkNest _ _ _ _ => true
  | .castable _ _ => true
  | .declares _ => true
  | _ => false
theorem nestW_ok : nestW.all nwB = true := by decide +kernel
theorem nw_warm {w : Cond} {s U : State} (hw : nwB w = true) (hW : s.WarmedH U.vm) (h : va_Nw w s) : va_Nw w U := by
  cases w <;> first | exact Bool.noConfusion hw | exact va_Nw.warmF hW h | exact va_Nw.warmM hW h | exact va_Nw.warmC hW h | exact va_Nw.warmD hW h
theorem nw_same {w : Cond} {s U : State} (hw : nwB w = true) (hW : s.vm = U.vm) (h : va_Nw w s) : va_Nw w U := by
  cases w <;> first | exact Bool.noConfusion hw | exact va_Nw.same rfl hW h
theorem nw_use {w : Cond} {s : State} {A : Array Value} (hw : nwB w = true) (h : va_Nw w s) : w.before A s = true := by
  cases w <;> first | exact Bool.noConfusion hw | exact va_Nw.use rfl h
theorem nw_of {w : Cond} {s : State} {A : Array Value} (hw : nwB w = true) (h : w.before A s = true) : va_Nw w s := by
  cases w <;> first | exact Bool.noConfusion hw | exact va_Nw.of rfl h
abbrev KK (g : GG) (U : State) : Prop := va_K g.1 vwCl (gT g) U ∧ (∀ w ∈ nestW, va_Nw w U) ∧ va_AO "BarometerLeague$Village" U ∧ va_AO "java/lang/Object" U ∧ va_AOA .int U
theorem KK.warm {g : GG} {s U : State} (hW : s.WarmedH U.vm) (h : KK g s) : KK g U := ⟨va_K.moved hW.alike h.1, fun w hw => nw_warm (List.all_eq_true.mp nestW_ok w hw) hW (h.2.1 w hw), va_AO.moved hW.alike h.2.2.1, va_AO.moved hW.alike h.2.2.2.1, va_AOA.moved hW.alike h.2.2.2.2⟩
theorem KK.same {g : GG} {s U : State} (e : s.vm = U.vm) (h : KK g s) : KK g U := ⟨va_K.moved (by rw [e]; exact Vm.Alike.refl _) h.1, fun w hw => nw_same (List.all_eq_true.mp nestW_ok w hw) e (h.2.1 w hw), va_AO.moved (by rw [e]; exact Vm.Alike.refl _) h.2.2.1, va_AO.moved (by rw [e]; exact Vm.Alike.refl _) h.2.2.2.1, va_AOA.moved (by rw [e]; exact Vm.Alike.refl _) h.2.2.2.2⟩
theorem KK.nest {g : GG} {s : State} (h : KK g s) (k : Nat) {w : Cond} {A : Array Value} (hw : nestW[k]? = some w) : w.before A s = true := nw_use (List.all_eq_true.mp nestW_ok w (List.mem_of_getElem? hw)) (h.2.1 w (List.mem_of_getElem? hw))
abbrev PP (g : GG) (L : List Nat) (f : Nat → va_E) (H : Heap) : Prop := va_P g.1 vwCl (va_pl L f) H
/-- which cells a method may change: those of L, and those that it makes -/
def AA (L : List Nat) (sz : Nat) : Nat → Prop := fun q => q ∈ L ∨ sz ≤ q
/-- an object, an int row, a boolean row, a row of references, a row of longs -/
abbrev eO (ci : Nat) (fs : List Value) : va_E := .inr (ci, fs)
abbrev eI (g : GG) (n : Nat) (h : Nat → Int32) : va_E := .inl (gI g, n, .inl h)
abbrev eZ (g : GG) (n : Nat) (h : Nat → Int32) : va_E := .inl (gZ g, n, .inl h)
abbrev eV (g : GG) (n : Nat) (h : Nat → Option Nat) : va_E := .inl (gV g, n, .inr (.inr (.inr (.inr h))))
abbrev eQ (g : GG) (n : Nat) (h : Nat → Option Nat) : va_E := .inl (gO g, n, .inr (.inr (.inr (.inr h))))
abbrev eR (g : GG) (n : Nat) (h : Nat → Option Nat) : va_E := .inl (gR g, n, .inr (.inr (.inr (.inr h))))
theorem pl_inj {L : List Nat} {f : Nat → va_E} {i : Nat} {p : Nat × va_E} (h : (va_pl L f)[i]? = some p) : L[i]? = some p.1 := by
  unfold va_pl at h
  rw [List.getElem?_map] at h
  cases e : L[i]? with
  | none => rw [e] at h; cases h
  | some a => rw [e] at h; cases h; rfl
theorem DD_of {A : Nat → Prop} {L : List Nat} {f : Nat → va_E} (hN : L.Nodup) (hA : ∀ a ∈ L, A a) : va_D A (va_pl L f) := by
  refine ⟨fun i j p q hi hj hpq => ?_, fun k q hk => hA _ (List.mem_of_getElem? (pl_inj hk))⟩
  have h1 := pl_inj hi
  have h2 := pl_inj hj
  rw [hpq] at h1
  exact (List.getElem?_inj (List.getElem?_eq_some_iff.mp h1).1 hN).mp (h1.trans h2.symm)
theorem PP.at {g : GG} {L : List Nat} {f : Nat → va_E} {H : Heap} (h : PP g L f H) {a : Nat} (ha : a ∈ L) : va_at g.1 vwCl (a, f a) H := by
  obtain ⟨k, hk⟩ := va_pl_get (X := []) (f := f) ha
  exact h k _ hk
theorem PP.kept {g : GG} {L : List Nat} {f : Nat → va_E} {H H1 : Heap} (h : PP g L f H) (hq : ∀ a ∈ L, H1[a]? = H[a]?) : PP g L f H1 :=
  va_P.kept h (fun _ _ hk => hq _ (List.mem_of_getElem? (pl_inj hk)))
theorem PP.lt {g : GG} {L : List Nat} {f : Nat → va_E} {H : Heap} (h : PP g L f H) {a : Nat} (ha : a ∈ L) : a < H.size := va_at.lt (h.at ha)
theorem PP.set {g : GG} {L : List Nat} {f : Nat → va_E} {H1 : Heap} {a k : Nat} {e : va_E} (hN : L.Nodup) (hL : a ∈ L) (hk : (va_pl L f)[k]? = some (a, f a)) (h : va_P g.1 vwCl ((va_pl L f).set k (a, e)) H1) : PP g L (va_up f a e) H1 := by
  have e1 := va_pl_set (A := fun _ => True) (X := []) (e := e) (DD_of hN (fun _ _ => trivial)) hL hk
  rw [List.nil_append, List.nil_append] at e1
  rw [e1] at h
  exact h
/-- f and f2 say the same of all but some addresses -/
def Fr (f f2 : Nat → va_E) (as : List Nat) : Prop := ∀ x, x ∉ as → f2 x = f x
theorem Fr.rf {f : Nat → va_E} {as : List Nat} : Fr f f as := fun _ _ => rfl
theorem Fr.up {f f1 : Nat → va_E} {as : List Nat} (h : Fr f f1 as) {a : Nat} {e : va_E} (ha : a ∈ as) : Fr f (va_up f1 a e) as := fun x hx => by
  rw [va_up_ne _ _ (fun q => hx (by rw [q]; exact ha))]
  exact h x hx
theorem Fr.tr {f f1 f2 : Nat → va_E} {as bs : List Nat} (h : Fr f f1 as) (h2 : Fr f1 f2 bs) (hs : ∀ x ∈ bs, x ∈ as) : Fr f f2 as := fun x hx => (h2 x (fun q => hx (hs x q))).trans (h x hx)
theorem Fr.get {f f1 : Nat → va_E} {as : List Nat} (h : Fr f f1 as) {x : Nat} {e : va_E} (hf : f x = e) (hx : x ∉ as) : f1 x = e := (h x hx).trans hf
theorem ne_e {f : Nat → va_E} {a b : Nat} {x y : va_E} (ha : f a = x) (hb : f b = y) (h : x ≠ y) : a ≠ b := fun e => h (by rw [← ha, ← hb, e])
section PG
variable {p : Program} {l : Launch} {e : Env} {R : Room} {s : State} {m : MethodId} {args : Array Value} {below : List Frame} {meth : Method} {c : Code} {H : Heap} {locs : List Loc} {cells slots : Nat} {Q : State → Prop}
variable {cc : ByteArray} {pc : Nat} {ls : Array Slot} {rest st0 : List Value} {g : GG} {L : List Nat} {f : Nat → va_E} {a : Nat} {A : Nat → Prop} {H0 : Heap} {Ts : List Cond}
theorem pg_get (hx : p.tables.exec = Jvm.exec) (hb : c.code = cc) {own ref C : String} {T : u_T} {N ci index : Nat} (hts : ∀ w ∈ Ts, w.before args s = true) (hin : ∀ w ∈ u_ws C T N, w ∈ Ts) (hown : s.vm.findClass own = some m.cls) (hK : KK g s) (hP : PP g L f H) (hL : a ∈ L) {fs : List Value} (hf : f a = .inr (ci, fs)) (hc : vwCl[ci]? = some (C, T, N)) (k : Nat) (hk : k < N) (hlink : (Cond.fieldLink own index ref (T k).2.1 (T k).2.2.1).before args s = true) (hsame : ∀ x, s.fieldFound? (T k).1 (T k).2.1 (T k).2.2.1 = some x → s.fieldFound? ref (T k).2.1 (T k).2.2.1 = some x) {v : Value} (hv : fs[k]? = some v) (hdg : decode cc pc = .ok (.getfield index, 3))
    (kk : W p l e R s m args below meth c H locs cells slots Q (F0 m (pc + 3) ls (v :: rest))) : W p l e R s m args below meth c H locs cells slots Q (F0 m pc ls (.ref a :: rest)) := by
  obtain ⟨q0, h0⟩ := va_pl_get (X := []) (f := f) hL
  rw [hf] at h0
  exact va_get hx hb hts hin hown hK.1 hP q0 h0 hc k hk hlink hsame hv hdg kk
theorem pg_getN (hx : p.tables.exec = Jvm.exec) (hb : c.code = cc) {own ref C host : String} {T : u_T} {N ci index : Nat} (hts : ∀ w ∈ Ts, w.before args s = true) (hin : ∀ w ∈ u_ws C T N, w ∈ Ts) (hown : s.vm.findClass own = some m.cls) (hK : KK g s) (hP : PP g L f H) (hL : a ∈ L) {fs : List Value} (hf : f a = .inr (ci, fs)) (hc : vwCl[ci]? = some (C, T, N)) (k : Nat) (hk : k < N) (hlink : (Cond.fieldLinkNest own index ref (T k).2.1 (T k).2.2.1 host).before args s = true) (hsame : ∀ x, s.fieldFound? (T k).1 (T k).2.1 (T k).2.2.1 = some x → s.fieldFound? ref (T k).2.1 (T k).2.2.1 = some x) {v : Value} (hv : fs[k]? = some v) (hdg : decode cc pc = .ok (.getfield index, 3))
    (kk : W p l e R s m args below meth c H locs cells slots Q (F0 m (pc + 3) ls (v :: rest))) : W p l e R s m args below meth c H locs cells slots Q (F0 m pc ls (.ref a :: rest)) := by
  obtain ⟨q0, h0⟩ := va_pl_get (X := []) (f := f) hL
  rw [hf] at h0
  exact va_getN hx hb hts hin hown hK.1 hP q0 h0 hc k hk hlink hsame hv hdg kk
theorem pg_put (hx : p.tables.exec = Jvm.exec) (hb : c.code = cc) {own ref C : String} {T : u_T} {N ci index : Nat} (hts : ∀ w ∈ Ts, w.before args s = true) (hin : ∀ w ∈ u_ws C T N, w ∈ Ts) (ty0 : Nat → FieldType) (hty : ∀ k, k < N → parseFieldDescriptor (T k).2.2.1 = some (ty0 k)) (hnm : ∀ a, a < N → ∀ b, b < N → a ≠ b → (T a).2.1 ≠ (T b).2.1) (hown : s.vm.findClass own = some m.cls) (hK : KK g s) (hP : PP g L f H) (hN : L.Nodup) (hA : ∀ a ∈ L, A a) (hS : va_S A H0 H locs) (hL : a ∈ L) {fs : List Value} (hf : f a = .inr (ci, fs)) (hc : vwCl[ci]? = some (C, T, N)) (k : Nat) (hk : k < N) (hlink : (Cond.fieldLink own index ref (T k).2.1 (T k).2.2.1).before args s = true) (hsame : ∀ x, s.fieldFound? (T k).1 (T k).2.1 (T k).2.2.1 = some x → s.fieldFound? ref (T k).2.1 (T k).2.2.1 = some x) (hfin : (T k).2.2.2 = false) {ty : FieldType} {v : Value} (hd : parseFieldDescriptor (T k).2.2.1 = some ty) (hn : narrow ty v = v) (hfit : fits ty v = true) (hl : k < fs.length)
    (hdg : decode cc pc = .ok (.putfield index, 3)) (kk : ∀ (H1 : Heap) (locs1 : List Loc), PP g L (va_up f a (.inr (ci, fs.set k v))) H1 → va_S A H0 H1 locs1 → W p l e R s m args below meth c H1 locs1 cells slots Q (F0 m (pc + 3) ls rest)) : W p l e R s m args below meth c H locs cells slots Q (F0 m pc ls (v :: .ref a :: rest)) := by
  obtain ⟨q0, h0⟩ := va_pl_get (X := []) (f := f) hL
  have h1 := h0
  rw [hf] at h1
  exact va_put hx hb hts hin ty0 hty hnm hown hK.1 hP (DD_of hN hA) hS q0 h1 hc k hk hlink hsame hfin hd hn hfit hl hdg (fun H1 locs1 hP1 _ hS1 => kk H1 locs1 (PP.set hN hL h0 hP1) hS1)
theorem pg_putN (hx : p.tables.exec = Jvm.exec) (hb : c.code = cc) {own ref C host : String} {T : u_T} {N ci index : Nat} (hts : ∀ w ∈ Ts, w.before args s = true) (hin : ∀ w ∈ u_ws C T N, w ∈ Ts) (ty0 : Nat → FieldType) (hty : ∀ k, k < N → parseFieldDescriptor (T k).2.2.1 = some (ty0 k)) (hnm : ∀ a, a < N → ∀ b, b < N → a ≠ b → (T a).2.1 ≠ (T b).2.1) (hown : s.vm.findClass own = some m.cls) (hK : KK g s) (hP : PP g L f H) (hN : L.Nodup) (hA : ∀ a ∈ L, A a) (hS : va_S A H0 H locs) (hL : a ∈ L) {fs : List Value} (hf : f a = .inr (ci, fs)) (hc : vwCl[ci]? = some (C, T, N)) (k : Nat) (hk : k < N) (hlink : (Cond.fieldLinkNest own index ref (T k).2.1 (T k).2.2.1 host).before args s = true) (hsame : ∀ x, s.fieldFound? (T k).1 (T k).2.1 (T k).2.2.1 = some x → s.fieldFound? ref (T k).2.1 (T k).2.2.1 = some x) (hfin : (T k).2.2.2 = false) {ty : FieldType} {v : Value} (hd : parseFieldDescriptor (T k).2.2.1 = some ty) (hn : narrow ty v = v) (hfit : fits ty v = true) (hl : k < fs.length)
    (hdg : decode cc pc = .ok (.putfield index, 3)) (kk : ∀ (H1 : Heap) (locs1 : List Loc), PP g L (va_up f a (.inr (ci, fs.set k v))) H1 → va_S A H0 H1 locs1 → W p l e R s m args below meth c H1 locs1 cells slots Q (F0 m (pc + 3) ls rest)) : W p l e R s m args below meth c H locs cells slots Q (F0 m pc ls (v :: .ref a :: rest)) := by
  obtain ⟨q0, h0⟩ := va_pl_get (X := []) (f := f) hL
  have h1 := h0
  rw [hf] at h1
  exact va_putN hx hb hts hin ty0 hty hnm hown hK.1 hP (DD_of hN hA) hS q0 h1 hc k hk hlink hsame hfin hd hn hfit hl hdg (fun H1 locs1 hP1 _ hS1 => kk H1 locs1 (PP.set hN hL h0 hP1) hS1)
theorem pg_iald (hx : p.tables.exec = Jvm.exec) (hb : c.code = cc) (hK : KK g s) (hP : PP g L f H) (hL : a ∈ L) {n : Nat} {h : Nat → Int32} (hf : f a = eI g n h) {i : Int32} (hin : vp_in i n) (hdg : decode cc pc = .ok (.iaload, 1))
    (kk : W p l e R s m args below meth c H locs cells slots Q (F0 m (pc + 1) ls (.int (h i.toNatClampNeg) :: rest))) : W p l e R s m args below meth c H locs cells slots Q (F0 m pc ls (.int i :: .ref a :: rest)) := by
  obtain ⟨q0, h0⟩ := va_pl_get (X := []) (f := f) hL
  rw [hf] at h0
  exact va_iald hx hb hK.1 hP q0 0 h0 rfl hin hdg kk
theorem pg_zald (hx : p.tables.exec = Jvm.exec) (hb : c.code = cc) (hK : KK g s) (hP : PP g L f H) (hL : a ∈ L) {n : Nat} {h : Nat → Int32} (hf : f a = eZ g n h) {i : Int32} (hin : vp_in i n) (hdg : decode cc pc = .ok (.baload, 1))
    (kk : W p l e R s m args below meth c H locs cells slots Q (F0 m (pc + 1) ls (.int (h i.toNatClampNeg) :: rest))) : W p l e R s m args below meth c H locs cells slots Q (F0 m pc ls (.int i :: .ref a :: rest)) := by
  obtain ⟨q0, h0⟩ := va_pl_get (X := []) (f := f) hL
  rw [hf] at h0
  exact va_zald hx hb hK.1 hP q0 1 h0 rfl hin hdg kk
theorem pg_vald (hx : p.tables.exec = Jvm.exec) (hb : c.code = cc) (hK : KK g s) (hP : PP g L f H) (hL : a ∈ L) {n : Nat} {h : Nat → Option Nat} (hf : f a = eV g n h) {i : Int32} (hin : vp_in i n) {v : Nat} (hv : h i.toNatClampNeg = some v) (hdg : decode cc pc = .ok (.aaload, 1))
    (kk : W p l e R s m args below meth c H locs cells slots Q (F0 m (pc + 1) ls (.ref v :: rest))) : W p l e R s m args below meth c H locs cells slots Q (F0 m pc ls (.int i :: .ref a :: rest)) := by
  obtain ⟨q0, h0⟩ := va_pl_get (X := []) (f := f) hL
  rw [hf] at h0
  refine va_aldq hx hb hK.1 hP q0 2 h0 rfl hin hdg ?_
  rw [hv]
  exact kk
theorem pg_qald (hx : p.tables.exec = Jvm.exec) (hb : c.code = cc) (hK : KK g s) (hP : PP g L f H) (hL : a ∈ L) {n : Nat} {h : Nat → Option Nat} (hf : f a = eQ g n h) {i : Int32} (hin : vp_in i n) {v : Nat} (hv : h i.toNatClampNeg = some v) (hdg : decode cc pc = .ok (.aaload, 1))
    (kk : W p l e R s m args below meth c H locs cells slots Q (F0 m (pc + 1) ls (.ref v :: rest))) : W p l e R s m args below meth c H locs cells slots Q (F0 m pc ls (.int i :: .ref a :: rest)) := by
  obtain ⟨q0, h0⟩ := va_pl_get (X := []) (f := f) hL
  rw [hf] at h0
  refine va_aldq hx hb hK.1 hP q0 3 h0 rfl hin hdg ?_
  rw [hv]
  exact kk
theorem pg_iast (hx : p.tables.exec = Jvm.exec) (hb : c.code = cc) (hK : KK g s) (hP : PP g L f H) (hN : L.Nodup) (hA : ∀ a ∈ L, A a) (hS : va_S A H0 H locs) (hL : a ∈ L) {n : Nat} {h : Nat → Int32} (hf : f a = eI g n h) {i x : Int32} (hin : vp_in i n) (hdg : decode cc pc = .ok (.iastore, 1))
    (kk : ∀ (H1 : Heap) (locs1 : List Loc), PP g L (va_up f a (eI g n (upd h i.toNatClampNeg x))) H1 → va_S A H0 H1 locs1 → W p l e R s m args below meth c H1 locs1 cells slots Q (F0 m (pc + 1) ls rest)) : W p l e R s m args below meth c H locs cells slots Q (F0 m pc ls (.int x :: .int i :: .ref a :: rest)) := by
  obtain ⟨q0, h0⟩ := va_pl_get (X := []) (f := f) hL
  have h1 := h0
  rw [hf] at h1
  exact va_iast hx hb hK.1 hP (DD_of hN hA) hS q0 0 h1 rfl hin hdg (fun H1 locs1 hP1 _ hS1 => kk H1 locs1 (PP.set hN hL h0 hP1) hS1)
theorem pg_zast (hx : p.tables.exec = Jvm.exec) (hb : c.code = cc) (hK : KK g s) (hP : PP g L f H) (hN : L.Nodup) (hA : ∀ a ∈ L, A a) (hS : va_S A H0 H locs) (hL : a ∈ L) {n : Nat} {h : Nat → Int32} (hf : f a = eZ g n h) {i x : Int32} (hin : vp_in i n) (hdg : decode cc pc = .ok (.bastore, 1))
    (kk : ∀ (H1 : Heap) (locs1 : List Loc), PP g L (va_up f a (eZ g n (upd h i.toNatClampNeg (vp_nar .boolean x)))) H1 → va_S A H0 H1 locs1 → W p l e R s m args below meth c H1 locs1 cells slots Q (F0 m (pc + 1) ls rest)) : W p l e R s m args below meth c H locs cells slots Q (F0 m pc ls (.int x :: .int i :: .ref a :: rest)) := by
  obtain ⟨q0, h0⟩ := va_pl_get (X := []) (f := f) hL
  have h1 := h0
  rw [hf] at h1
  exact va_zast hx hb hK.1 hP (DD_of hN hA) hS q0 1 h1 rfl hin hdg (fun H1 locs1 hP1 _ hS1 => kk H1 locs1 (PP.set hN hL h0 hP1) hS1)
theorem pg_alen (hx : p.tables.exec = Jvm.exec) (hb : c.code = cc) (hK : KK g s) (hP : PP g L f H) (hL : a ∈ L) {cA : ClassId} {x : vp_A} (hf : f a = .inl (cA, x)) {ty : FieldType} (t0 : Nat) (ht : (gT g)[t0]? = some (cA, ty)) {v : Int32} (hv : Int32.ofNat x.1 = v) (hdg : decode cc pc = .ok (.arraylength, 1))
    (kk : W p l e R s m args below meth c H locs cells slots Q (F0 m (pc + 1) ls (.int v :: rest))) : W p l e R s m args below meth c H locs cells slots Q (F0 m pc ls (.ref a :: rest)) := by
  obtain ⟨q0, h0⟩ := va_pl_get (X := []) (f := f) hL
  rw [hf] at h0
  exact va_alen hx hb hK.1 hP q0 t0 h0 ht hv hdg kk
/-- a receiver -/
theorem pg_recv (hK : KK g s) (hP : PP g L f H) (hL : a ∈ L) {ci : Nat} {fs : List Value} {q : vw_C} (hf : f a = .inr (ci, fs)) (hc : vwCl[ci]? = some q) : ∃ cell : Cell, H[a]? = some cell ∧ cell.vm.isStatics = false ∧ s.vm.findClass q.1 = some cell.cls := by
  obtain ⟨q0, h0⟩ := va_pl_get (X := []) (f := f) hL
  rw [hf] at h0
  exact va_recv hK.1 hP hc h0
end PG
/-- a contract of a method that only reads: an int or boolean answer; the heap stays -/
abbrev rp (g : GG) (L : List Nat) (f : Nat → va_E) : State → Prop := fun U => PP g L f U.heap ∧ KK g U
abbrev RO (l : Launch) (g : GG) (y : MethodName) (ws : List Cond) (fr lo : Nat) (L : List Nat) (f : Nat → va_E) (As : List Value) (post : Int32 → Prop) : Prop := Met l y ws ({ frames := fr, cells := 0, slots := 0, locals := lo }) (va_Pc As (rp g L f)) (vp_Si post) 0 0 (fun _ => False)
/-- a contract of a method that writes cells of L and makes none -/
abbrev wp_ (g : GG) (L : List Nat) (f : Nat → va_E) (sz : Nat) : State → Prop := fun U => U.heap.size = sz ∧ PP g L f U.heap ∧ KK g U
abbrev RW (l : Launch) (g : GG) (y : MethodName) (ws : List Cond) (fr lo : Nat) (L : List Nat) (f : Nat → va_E) (sz : Nat) (As : List Value) (post : Int32 → (Nat → va_E) → Prop) : Prop := Met l y ws ({ frames := fr, cells := 0, slots := 0, locals := lo }) (va_Pc As (wp_ g L f sz)) (va_Qi post (fun f2 t => PP g L f2 t.heap) (AA L sz)) 0 0 (AA L sz)
abbrev RV (l : Launch) (g : GG) (y : MethodName) (ws : List Cond) (fr lo : Nat) (L : List Nat) (f : Nat → va_E) (sz : Nat) (As : List Value) (post : (Nat → va_E) → Prop) : Prop := Met l y ws ({ frames := fr, cells := 0, slots := 0, locals := lo }) (va_Pc As (wp_ g L f sz)) (va_Qv post (fun f2 t => PP g L f2 t.heap) (AA L sz)) 0 0 (AA L sz)
theorem rp_blind {g : GG} {L : List Nat} {f : Nat → va_E} {As : List Value} : FrameBlind (va_Pc As (rp g L f)) := fun a U gg mk q => ⟨q.1, q.2.1, KK.same (s := U) (U := U.calling gg mk a) rfl q.2.2⟩
theorem wp_blind {g : GG} {L : List Nat} {f : Nat → va_E} {sz : Nat} {As : List Value} : FrameBlind (va_Pc As (wp_ g L f sz)) := fun a U gg mk q => ⟨q.1, q.2.1, q.2.2.1, KK.same (s := U) (U := U.calling gg mk a) rfl q.2.2.2⟩
section PC
variable {p : Program} {l : Launch} {e : Env} {R : Room} {s : State} {m : MethodId} {args : Array Value} {below : List Frame} {meth : Method} {c : Code} {H : Heap} {locs : List Loc} {cells slots : Nat} {Q : State → Prop}
variable {cc : ByteArray} {pc : Nat} {ls : Array Slot} {rest st0 : List Value} {g : GG} {L : List Nat} {f : Nat → va_E} {b : Nat} {A : Nat → Prop} {H0 : Heap} {Ts ws : List Cond} {own C : String} {y : MethodName} {bytes : ByteArray} {maxL nL n index fr lo : Nat} {ret : Option FieldType} {As : List Value}
theorem ro_V (S : CallFix p m c cc nL s args Ts own) {post : Int32 → Prop} (hM : RO l g y ws fr lo L f (.ref b :: As) post) (cw : CallW R s args own C index y bytes maxL ret ws ({ frames := fr, cells := 0, slots := 0, locals := lo }) 0 0 n) (hK : KK g s) (hP : PP g L f H) (hL : b ∈ L) {ci : Nat} {fs : List Value} {T : u_T} {N : Nat} (hf : f b = .inr (ci, fs)) (hc : vwCl[ci]? = some (C, T, N))
    (hn : As.length = n) (hsize : ls.size = nL) (hstack : st0 = As.reverse ++ .ref b :: rest) (hW : (rest.map fun v => v.category).sum ≤ 8) (hdg : decode cc pc = .ok (.invokevirtual index, 3)) (hcs : cells ≤ R.cells ∧ slots ≤ R.slots)
    (kk : ∀ r : Int32, post r → W p l e R s m args below meth c H locs cells slots Q (F0 m (pc + 3) ls (.int r :: rest))) : W p l e R s m args below meth c H locs cells slots Q (F0 m pc ls st0) :=
  vp_callSi (W.runV S hM cw ⟨rp_blind, pg_recv hK hP hL hf hc, fun U hU hW => ⟨rfl, by rw [hU]; exact hP, KK.warm hW hK⟩⟩ rfl hn hsize hstack (lv_room hW) hdg hcs) kk
theorem ro_S (S : CallFix p m c cc nL s args Ts own) {post : Int32 → Prop} (hM : RO l g y ws fr lo L f As post) (cw : CallB R s args own index y bytes maxL ret ws ({ frames := fr, cells := 0, slots := 0, locals := lo }) 0 0 n ∧ (Cond.static y).before args s = true) (hK : KK g s) (hP : PP g L f H)
    (hn : As.length = n) (hsize : ls.size = nL) (hstack : st0 = As.reverse ++ rest) (hW : (rest.map fun v => v.category).sum ≤ 8) (hdg : decode cc pc = .ok (.invokestatic index, 3)) (hcs : cells ≤ R.cells ∧ slots ≤ R.slots)
    (kk : ∀ r : Int32, post r → W p l e R s m args below meth c H locs cells slots Q (F0 m (pc + 3) ls (.int r :: rest))) : W p l e R s m args below meth c H locs cells slots Q (F0 m pc ls st0) :=
  vp_callSi (W.runS S hM cw ⟨rp_blind, fun U hU hW => ⟨rfl, by rw [hU]; exact hP, KK.warm hW hK⟩⟩ rfl hn hsize hstack (lv_room hW) hdg hcs) kk
theorem AA_old {L : List Nat} {H : Heap} (hA : ∀ a ∈ L, A a) : ∀ q, q < H.size → AA L H.size q → A q := fun q h1 h2 => h2.elim (hA q) (fun h => absurd h (by omega))
theorem AA_free {L : List Nat} {H H0 : Heap} (hA : ∀ a ∈ L, A a) (hA2 : ∀ q, H0.size ≤ q → A q) (hS : va_S A H0 H locs) : ∀ q, AA L H.size q → A q := fun q h2 => h2.elim (hA q) (fun h => hA2 q (Nat.le_trans hS.1 h))
theorem rw_V (S : CallFix p m c cc nL s args Ts own) {post : Int32 → (Nat → va_E) → Prop} (hM : RW l g y ws fr lo L f H.size (.ref b :: As) post) (cw : CallW R s args own C index y bytes maxL ret ws ({ frames := fr, cells := 0, slots := 0, locals := lo }) 0 0 n) (hK : KK g s) (hP : PP g L f H) (hA : ∀ a ∈ L, A a) (hA2 : ∀ q, H0.size ≤ q → A q) (hS : va_S A H0 H locs) (hL : b ∈ L) {ci : Nat} {fs : List Value} {T : u_T} {N : Nat} (hf : f b = .inr (ci, fs)) (hc : vwCl[ci]? = some (C, T, N))
    (hn : As.length = n) (hsize : ls.size = nL) (hstack : st0 = As.reverse ++ .ref b :: rest) (hW : (rest.map fun v => v.category).sum ≤ 8) (hdg : decode cc pc = .ok (.invokevirtual index, 3)) (hcs : cells ≤ R.cells ∧ slots ≤ R.slots)
    (kk : ∀ (r : Int32) (f2 : Nat → va_E) (H1 : Heap) (locs1 : List Loc), post r f2 → PP g L f2 H1 → va_S A H0 H1 locs1 → W p l e R s m args below meth c H1 locs1 cells slots Q (F0 m (pc + 3) ls (.int r :: rest))) : W p l e R s m args below meth c H locs cells slots Q (F0 m pc ls st0) :=
  va_calli (va_runV S hM cw ⟨wp_blind, pg_recv hK hP hL hf hc, fun U hU hW => ⟨rfl, by rw [hU], by rw [hU]; exact hP, KK.warm hW hK⟩⟩ rfl hn hsize hstack (lv_room hW) hdg hcs) hS (AA_old hA) (AA_free hA hA2 hS) (fun r f2 t H1 locs1 ht _ hw hB _ _ hS1 => kk r f2 H1 locs1 hw (by rw [← ht]; exact hB) hS1)
theorem rv_V (S : CallFix p m c cc nL s args Ts own) {post : (Nat → va_E) → Prop} (hM : RV l g y ws fr lo L f H.size (.ref b :: As) post) (cw : CallW R s args own C index y bytes maxL ret ws ({ frames := fr, cells := 0, slots := 0, locals := lo }) 0 0 n) (hK : KK g s) (hP : PP g L f H) (hA : ∀ a ∈ L, A a) (hA2 : ∀ q, H0.size ≤ q → A q) (hS : va_S A H0 H locs) (hL : b ∈ L) {ci : Nat} {fs : List Value} {T : u_T} {N : Nat} (hf : f b = .inr (ci, fs)) (hc : vwCl[ci]? = some (C, T, N))
    (hn : As.length = n) (hsize : ls.size = nL) (hstack : st0 = As.reverse ++ .ref b :: rest) (hW : (rest.map fun v => v.category).sum ≤ 8) (hdg : decode cc pc = .ok (.invokevirtual index, 3)) (hcs : cells ≤ R.cells ∧ slots ≤ R.slots)
    (kk : ∀ (f2 : Nat → va_E) (H1 : Heap) (locs1 : List Loc), post f2 → PP g L f2 H1 → va_S A H0 H1 locs1 → W p l e R s m args below meth c H1 locs1 cells slots Q (F0 m (pc + 3) ls rest)) : W p l e R s m args below meth c H locs cells slots Q (F0 m pc ls st0) :=
  va_callv (va_runV S hM cw ⟨wp_blind, pg_recv hK hP hL hf hc, fun U hU hW => ⟨rfl, by rw [hU], by rw [hU]; exact hP, KK.warm hW hK⟩⟩ rfl hn hsize hstack (lv_room hW) hdg hcs) hS (AA_old hA) (AA_free hA hA2 hS) (fun f2 t H1 locs1 ht _ hw hB _ _ hS1 => kk f2 H1 locs1 hw (by rw [← ht]; exact hB) hS1)
theorem rv_S (S : CallFix p m c cc nL s args Ts own) {post : (Nat → va_E) → Prop} (hM : RV l g y ws fr lo L f H.size As post) (cw : CallB R s args own index y bytes maxL ret ws ({ frames := fr, cells := 0, slots := 0, locals := lo }) 0 0 n ∧ (Cond.static y).before args s = true) (hK : KK g s) (hP : PP g L f H) (hA : ∀ a ∈ L, A a) (hA2 : ∀ q, H0.size ≤ q → A q) (hS : va_S A H0 H locs)
    (hn : As.length = n) (hsize : ls.size = nL) (hstack : st0 = As.reverse ++ rest) (hW : (rest.map fun v => v.category).sum ≤ 8) (hdg : decode cc pc = .ok (.invokestatic index, 3)) (hcs : cells ≤ R.cells ∧ slots ≤ R.slots)
    (kk : ∀ (f2 : Nat → va_E) (H1 : Heap) (locs1 : List Loc), post f2 → PP g L f2 H1 → va_S A H0 H1 locs1 → W p l e R s m args below meth c H1 locs1 cells slots Q (F0 m (pc + 3) ls rest)) : W p l e R s m args below meth c H locs cells slots Q (F0 m pc ls st0) :=
  va_callv (va_runS S hM cw ⟨wp_blind, fun U hU hW => ⟨rfl, by rw [hU], by rw [hU]; exact hP, KK.warm hW hK⟩⟩ rfl hn hsize hstack (lv_room hW) hdg hcs) hS (AA_old hA) (AA_free hA hA2 hS) (fun f2 t H1 locs1 ht _ hw hB _ _ hS1 => kk f2 H1 locs1 hw (by rw [← ht]; exact hB) hS1)
end PC
/-- Met.ofW for a method whose name alone says that no native row stands in its place (Math.floorMod) -/
theorem ofWF {l : Launch} {y : MethodName} {ws ws' : List Cond} {rm : Room} {Pc : Array Value → State → Prop} {Qc : Array Value → State → Outcome → State → Prop} {mc ms : Nat} {free : Addr → Prop} {cc : ByteArray} {maxL : Nat} {ret : Option FieldType}
    (hy : plainFor y = true) (hw : ws = Cond.code y cc maxL ret :: ws')
    (body : ∀ p e s m args below meth c s₁, BodyLoose p l y (headSpec ws rm) cc maxL ret e s m args below meth c s₁ → c.maxLocals = maxL → Pc args s →
      W p l e (headSpec ws rm).room s m args below meth c s.heap [] 0 0 (MQ below Qc args s mc ms free) (entryFrame m args maxL)) : Met l y ws rm Pc Qc mc ms free := by
  refine MetFree.of_bodySF (code := cc) (maxLocals := maxL) (ret := ret) hy ?_ ?_
  · intro args s m h hn
    obtain ⟨meth, c, h1, h2, h3, h4, h5, h6, -, -⟩ := Cond.code_spec hn (atoms_spec (ws := ws) h _ (by rw [hw]; exact List.mem_cons_self))
    exact ⟨meth, c, h1, h2, h3, h4, h5, h6⟩
  · intro p e s m args below meth c s₁ B hml hP _
    have hh0 : s₁.heap = s.heap := by rw [B.state]; rfl
    obtain ⟨t, a1, o, b1, b2, b3⟩ := body p e s m args below meth c s₁ B hml hP s₁ hh0 (Stand.of_body B)
    exact ⟨t, o, a1, b1, b2, ⟨b3.1, b3.2⟩⟩
/-! ===== how a method's walk begins and ends ===== -/
section ST
variable {l : Launch} {g : GG} {L : List Nat} {f : Nat → va_E} {y : MethodName} {ws ws' : List Cond} {fr lo : Nat} {As : List Value} {cc : ByteArray} {maxL sz : Nat} {ret : FieldType}
theorem RO.start {post : Int32 → Prop} (hy : plainFor y = true) (hw : ws = Cond.code y cc maxL (some ret) :: ws') (hn : (lg_sl As).length ≤ maxL)
    (body : ∀ (p : Program) (e : Env) (s : State) (m : MethodId) (args : Array Value) (below : List Frame) (meth : Method) (c : Code) (Q : State → Prop) (ls : Array Slot), p.tables.exec = Jvm.exec → c.code = cc → c.maxLocals = maxL → (∀ w ∈ ws, w.before args s = true) → s.vm.findClass y.cls = some m.cls → PP g L f s.heap → KK g s → lv_has ls maxL (lv_args 0 As) →
      (∀ (v : Int32) (pc : Nat) (ls : Array Slot), post v → narrow ret (.int v) = .int v → decode cc pc = .ok (.ireturn, 1) → W p l e ({ frames := fr, cells := 0, slots := 0, locals := lo } : Room) s m args below meth c s.heap [] 0 0 Q (F0 m pc ls [.int v])) →
      W p l e ({ frames := fr, cells := 0, slots := 0, locals := lo } : Room) s m args below meth c s.heap [] 0 0 Q (F0 m 0 ls [])) : RO l g y ws fr lo L f As post := by
  refine ofWF (cc := cc) (maxL := maxL) (ret := some ret) hy hw ?_
  intro p e s m args below meth c s₁ B hml hv
  obtain ⟨rfl, hP, hK⟩ := hv
  have hl := lv_entry As (n := maxL) hn
  rw [lg_entry_eq]
  have hlk := B.notSynchronized
  exact body p e s m _ below meth c _ _ B.exec B.bytes hml (atoms_spec (ws := ws) B.pre) (findClass_of_methodNamed B.named) hP hK hl (fun v pc ls hp hnr hd => W.zret (ty := ret) B.exec B.bytes B.returns hnr (fun t ht hW => ⟨v, rfl, hp, ht⟩) (fun _ h => absurd h List.not_mem_nil) hd hlk)
theorem RW.start {post : Int32 → (Nat → va_E) → Prop} (hy : plainFor y = true) (hw : ws = Cond.code y cc maxL (some ret) :: ws') (hn : (lg_sl As).length ≤ maxL)
    (body : ∀ (p : Program) (e : Env) (s : State) (m : MethodId) (args : Array Value) (below : List Frame) (meth : Method) (c : Code) (Q : State → Prop) (ls : Array Slot) (A : Nat → Prop), p.tables.exec = Jvm.exec → c.code = cc → c.maxLocals = maxL → (∀ w ∈ ws, w.before args s = true) → s.vm.findClass y.cls = some m.cls → (∀ a ∈ L, A a) → (∀ q, s.heap.size ≤ q → A q) → va_S A s.heap s.heap [] → PP g L f s.heap → KK g s → lv_has ls maxL (lv_args 0 As) →
      (∀ (v : Int32) (f2 : Nat → va_E) (H : Heap) (locs : List Loc) (pc : Nat) (ls : Array Slot), post v f2 → PP g L f2 H → va_S A s.heap H locs → narrow ret (.int v) = .int v → decode cc pc = .ok (.ireturn, 1) → W p l e ({ frames := fr, cells := 0, slots := 0, locals := lo } : Room) s m args below meth c H locs 0 0 Q (F0 m pc ls [.int v])) →
      W p l e ({ frames := fr, cells := 0, slots := 0, locals := lo } : Room) s m args below meth c s.heap [] 0 0 Q (F0 m 0 ls [])) : RW l g y ws fr lo L f sz As post := by
  refine ofWF (cc := cc) (maxL := maxL) (ret := some ret) hy hw ?_
  intro p e s m args below meth c s₁ B hml hv
  obtain ⟨rfl, hsz, hP, hK⟩ := hv
  subst hsz
  have hl := lv_entry As (n := maxL) hn
  rw [lg_entry_eq]
  have hlk := B.notSynchronized
  exact body p e s m _ below meth c _ _ (AA L s.heap.size) B.exec B.bytes hml (atoms_spec (ws := ws) B.pre) (findClass_of_methodNamed B.named) (fun _ h => Or.inl h) (fun _ h => Or.inr h) va_S.rf hP hK hl (fun v f2 H locs pc ls hp hP2 hS hnr hd => W.zret (ty := ret) B.exec B.bytes B.returns hnr (fun t ht hW => ⟨⟨v, f2, rfl, hp, by dsimp only; rw [ht]; exact hP2⟩, hS.F ht⟩) hS.2.2 hd hlk)
theorem RV.start {post : (Nat → va_E) → Prop} (hy : plainFor y = true) (hw : ws = Cond.code y cc maxL none :: ws') (hn : (lg_sl As).length ≤ maxL)
    (body : ∀ (p : Program) (e : Env) (s : State) (m : MethodId) (args : Array Value) (below : List Frame) (meth : Method) (c : Code) (Q : State → Prop) (ls : Array Slot) (A : Nat → Prop), p.tables.exec = Jvm.exec → c.code = cc → c.maxLocals = maxL → (∀ w ∈ ws, w.before args s = true) → s.vm.findClass y.cls = some m.cls → (∀ a ∈ L, A a) → (∀ q, s.heap.size ≤ q → A q) → va_S A s.heap s.heap [] → PP g L f s.heap → KK g s → lv_has ls maxL (lv_args 0 As) →
      (∀ (f2 : Nat → va_E) (H : Heap) (locs : List Loc) (pc : Nat) (ls : Array Slot), post f2 → PP g L f2 H → va_S A s.heap H locs → decode cc pc = .ok (.return_, 1) → W p l e ({ frames := fr, cells := 0, slots := 0, locals := lo } : Room) s m args below meth c H locs 0 0 Q (F0 m pc ls [])) →
      W p l e ({ frames := fr, cells := 0, slots := 0, locals := lo } : Room) s m args below meth c s.heap [] 0 0 Q (F0 m 0 ls [])) : RV l g y ws fr lo L f sz As post := by
  refine ofWF (cc := cc) (maxL := maxL) (ret := none) hy hw ?_
  intro p e s m args below meth c s₁ B hml hv
  obtain ⟨rfl, hsz, hP, hK⟩ := hv
  subst hsz
  have hl := lv_entry As (n := maxL) hn
  rw [lg_entry_eq]
  have hlk := B.notSynchronized
  exact body p e s m _ below meth c _ _ (AA L s.heap.size) B.exec B.bytes hml (atoms_spec (ws := ws) B.pre) (findClass_of_methodNamed B.named) (fun _ h => Or.inl h) (fun _ h => Or.inr h) va_S.rf hP hK hl (fun f2 H locs pc ls hp hP2 hS hd => W.vret B.exec B.bytes B.returns (fun t ht hW => ⟨⟨f2, rfl, hp, by dsimp only; rw [ht]; exact hP2⟩, hS.F ht⟩) hS.2.2 hd hlk)
end ST
/-! ===== rows by a natural index ===== -/
section PN
variable {p : Program} {l : Launch} {e : Env} {R : Room} {s : State} {m : MethodId} {args : Array Value} {below : List Frame} {meth : Method} {c : Code} {H : Heap} {locs : List Loc} {cells slots : Nat} {Q : State → Prop}
variable {cc : ByteArray} {pc : Nat} {ls : Array Slot} {rest st0 : List Value} {g : GG} {L : List Nat} {f : Nat → va_E} {a : Nat} {A : Nat → Prop} {H0 : Heap}
theorem pn_in {i : Int32} {j n : Nat} (hi : i = nI j) (hj : j < n) (hn : n < 2 ^ 31) : vp_in i n ∧ i.toNatClampNeg = j := by
  subst hi
  exact ⟨vp_in_nI hj hn, nI_clamp (Nat.lt_trans hj hn)⟩
theorem pn_iald (hx : p.tables.exec = Jvm.exec) (hb : c.code = cc) (hK : KK g s) (hP : PP g L f H) (hL : a ∈ L) {n : Nat} {h : Nat → Int32} (hf : f a = eI g n h) {i : Int32} {j : Nat} (hi : i = nI j) (hj : j < n) (hn : n < 2 ^ 31) (hdg : decode cc pc = .ok (.iaload, 1))
    (kk : W p l e R s m args below meth c H locs cells slots Q (F0 m (pc + 1) ls (.int (h j) :: rest))) : W p l e R s m args below meth c H locs cells slots Q (F0 m pc ls (.int i :: .ref a :: rest)) :=
  pg_iald hx hb hK hP hL hf (pn_in hi hj hn).1 hdg (by rw [(pn_in hi hj hn).2]; exact kk)
theorem pn_zald (hx : p.tables.exec = Jvm.exec) (hb : c.code = cc) (hK : KK g s) (hP : PP g L f H) (hL : a ∈ L) {n : Nat} {h : Nat → Int32} (hf : f a = eZ g n h) {i : Int32} {j : Nat} (hi : i = nI j) (hj : j < n) (hn : n < 2 ^ 31) (hdg : decode cc pc = .ok (.baload, 1))
    (kk : W p l e R s m args below meth c H locs cells slots Q (F0 m (pc + 1) ls (.int (h j) :: rest))) : W p l e R s m args below meth c H locs cells slots Q (F0 m pc ls (.int i :: .ref a :: rest)) :=
  pg_zald hx hb hK hP hL hf (pn_in hi hj hn).1 hdg (by rw [(pn_in hi hj hn).2]; exact kk)
theorem pn_vald (hx : p.tables.exec = Jvm.exec) (hb : c.code = cc) (hK : KK g s) (hP : PP g L f H) (hL : a ∈ L) {n : Nat} {h : Nat → Option Nat} (hf : f a = eV g n h) {i : Int32} {j v : Nat} (hi : i = nI j) (hj : j < n) (hn : n < 2 ^ 31) (hv : h j = some v) (hdg : decode cc pc = .ok (.aaload, 1))
    (kk : W p l e R s m args below meth c H locs cells slots Q (F0 m (pc + 1) ls (.ref v :: rest))) : W p l e R s m args below meth c H locs cells slots Q (F0 m pc ls (.int i :: .ref a :: rest)) :=
  pg_vald hx hb hK hP hL hf (pn_in hi hj hn).1 (by rw [(pn_in hi hj hn).2]; exact hv) hdg kk
theorem pn_qald (hx : p.tables.exec = Jvm.exec) (hb : c.code = cc) (hK : KK g s) (hP : PP g L f H) (hL : a ∈ L) {n : Nat} {h : Nat → Option Nat} (hf : f a = eQ g n h) {i : Int32} {j v : Nat} (hi : i = nI j) (hj : j < n) (hn : n < 2 ^ 31) (hv : h j = some v) (hdg : decode cc pc = .ok (.aaload, 1))
    (kk : W p l e R s m args below meth c H locs cells slots Q (F0 m (pc + 1) ls (.ref v :: rest))) : W p l e R s m args below meth c H locs cells slots Q (F0 m pc ls (.int i :: .ref a :: rest)) :=
  pg_qald hx hb hK hP hL hf (pn_in hi hj hn).1 (by rw [(pn_in hi hj hn).2]; exact hv) hdg kk
theorem pn_iast (hx : p.tables.exec = Jvm.exec) (hb : c.code = cc) (hK : KK g s) (hP : PP g L f H) (hN : L.Nodup) (hA : ∀ a ∈ L, A a) (hS : va_S A H0 H locs) (hL : a ∈ L) {n : Nat} {h : Nat → Int32} (hf : f a = eI g n h) {i x : Int32} {j : Nat} (hi : i = nI j) (hj : j < n) (hn : n < 2 ^ 31) (hdg : decode cc pc = .ok (.iastore, 1))
    (kk : ∀ (H1 : Heap) (locs1 : List Loc), PP g L (va_up f a (eI g n (upd h j x))) H1 → va_S A H0 H1 locs1 → W p l e R s m args below meth c H1 locs1 cells slots Q (F0 m (pc + 1) ls rest)) : W p l e R s m args below meth c H locs cells slots Q (F0 m pc ls (.int x :: .int i :: .ref a :: rest)) :=
  pg_iast hx hb hK hP hN hA hS hL hf (pn_in hi hj hn).1 hdg (by rw [(pn_in hi hj hn).2]; exact kk)
theorem pn_zast (hx : p.tables.exec = Jvm.exec) (hb : c.code = cc) (hK : KK g s) (hP : PP g L f H) (hN : L.Nodup) (hA : ∀ a ∈ L, A a) (hS : va_S A H0 H locs) (hL : a ∈ L) {n : Nat} {h : Nat → Int32} (hf : f a = eZ g n h) {i x : Int32} {j : Nat} (hi : i = nI j) (hj : j < n) (hn : n < 2 ^ 31) (hnx : vp_nar .boolean x = x) (hdg : decode cc pc = .ok (.bastore, 1))
    (kk : ∀ (H1 : Heap) (locs1 : List Loc), PP g L (va_up f a (eZ g n (upd h j x))) H1 → va_S A H0 H1 locs1 → W p l e R s m args below meth c H1 locs1 cells slots Q (F0 m (pc + 1) ls rest)) : W p l e R s m args below meth c H locs cells slots Q (F0 m pc ls (.int x :: .int i :: .ref a :: rest)) :=
  pg_zast hx hb hK hP hN hA hS hL hf (pn_in hi hj hn).1 hdg (by rw [(pn_in hi hj hn).2, hnx]; exact kk)
end PN
/-! ===== a truth as an int ===== -/
def b2i (b : Bool) : Int32 := if b then 1 else 0
theorem b2i_t : b2i true = 1 := rfl
theorem b2i_f : b2i false = 0 := rfl
theorem b2i_n (b : Bool) : narrow .boolean (.int (b2i b)) = .int (b2i b) := by cases b <;> rfl
theorem b2i_v (b : Bool) : vp_nar .boolean (b2i b) = b2i b := by cases b <;> rfl
theorem b2i_1 {b : Bool} : b2i b = 1 ↔ b = true := by cases b <;> decide
theorem b2i_0 {b : Bool} : b2i b = 0 ↔ b = false := by cases b <;> decide
theorem b2i_p {b : Bool} {x : Int32} (h : x = 1) (hb : b = true) : x = b2i b := by rw [h, hb]; rfl
theorem b2i_q {b : Bool} {x : Int32} (h : x = 0) (hb : b = false) : x = b2i b := by rw [h, hb]; rfl
