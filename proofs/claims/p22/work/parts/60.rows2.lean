/-! ===== rows of rows; pools beside each other ===== -/
/-- what lay outside a pool is as it was -/
def Kp (L : List Nat) (H H1 : Heap) : Prop := ∀ q, q < H.size → q ∉ L → H1[q]? = H[q]?
theorem Kp.of {L : List Nat} {H H1 : Heap} (h : ∀ q : Nat, q < H.size → ¬ AA L H.size q → H1[q]? = H[q]?) : Kp L H H1 := fun q h1 h2 => h q h1 (fun z => z.elim h2 (fun z => absurd h1 (by omega)))
theorem PP.kp {g : GG} {L L2 : List Nat} {f : Nat → va_E} {H H1 : Heap} (h : PP g L f H) (hd : ∀ x ∈ L, x ∉ L2) (k : Kp L2 H H1) : PP g L f H1 := h.kept (fun a ha => k a (h.lt ha) (hd a ha))
theorem PP.cg {g : GG} {L : List Nat} {f f2 : Nat → va_E} {H : Heap} (h : PP g L f H) (e : ∀ x ∈ L, f2 x = f x) : PP g L f2 H := PP.of (fun b hb => by rw [e b hb]; exact h.at hb)
def jn (L : List Nat) (f f2 : Nat → va_E) : Nat → va_E := fun x => if x ∈ L then f x else f2 x
theorem jn_in {L : List Nat} {f f2 : Nat → va_E} {x : Nat} (h : x ∈ L) : jn L f f2 x = f x := if_pos h
theorem jn_out {L : List Nat} {f f2 : Nat → va_E} {x : Nat} (h : x ∉ L) : jn L f f2 x = f2 x := if_neg h
theorem PP.join {g : GG} {L L2 : List Nat} {f f2 : Nat → va_E} {H : Heap} (h : PP g L f H) (h2 : PP g L2 f2 H) (hd : ∀ x ∈ L, x ∉ L2) : PP g (L ++ L2) (jn L f f2) H := PP.of (fun b hb => by
  rcases List.mem_append.mp hb with k | k
  · rw [jn_in k]; exact h.at k
  · rw [jn_out (fun z => hd b z k)]; exact h2.at k)
theorem PP.spl {g : GG} {L L2 : List Nat} {f f2 : Nat → va_E} {H : Heap} (h : PP g (L ++ L2) (jn L f f2) H) (hd : ∀ x ∈ L, x ∉ L2) : PP g L f H ∧ PP g L2 f2 H :=
  ⟨PP.of (fun b hb => by have := h.at (List.mem_append.mpr (Or.inl hb)); rw [jn_in hb] at this; exact this), PP.of (fun b hb => by have := h.at (List.mem_append.mpr (Or.inr hb)); rw [jn_out (fun z => hd b z hb)] at this; exact this)⟩
theorem nd_app {L L2 : List Nat} (h : L.Nodup) (h2 : L2.Nodup) (hd : ∀ x ∈ L, x ∉ L2) : (L ++ L2).Nodup := List.nodup_append.mpr ⟨h, h2, fun x hx y hy e => hd x hx (e ▸ hy)⟩
theorem al_app {A : Nat → Prop} {L L2 : List Nat} (h : ∀ x ∈ L, A x) (h2 : ∀ x ∈ L2, A x) : ∀ x ∈ L ++ L2, A x := fun x hx => (List.mem_append.mp hx).elim (h x) (h2 x)
theorem dj_sym {L L2 : List Nat} (h : ∀ x ∈ L, x ∉ L2) : ∀ x ∈ L2, x ∉ L := fun x hx z => h x z hx
theorem dj_app {L L2 L3 : List Nat} (h : ∀ x ∈ L, x ∉ L2) (h2 : ∀ x ∈ L, x ∉ L3) : ∀ x ∈ L, x ∉ L2 ++ L3 := fun x hx z => (List.mem_append.mp z).elim (h x hx) (h2 x hx)
theorem dj_app2 {L L2 L3 : List Nat} (h : ∀ x ∈ L, x ∉ L3) (h2 : ∀ x ∈ L2, x ∉ L3) : ∀ x ∈ L ++ L2, x ∉ L3 := fun x hx => (List.mem_append.mp hx).elim (h x) (h2 x)
/-- a pool that has grown lies beside what lay beside it -/
theorem dj_gr {g : GG} {L L2 Lo : List Nat} {fo : Nat → va_E} {H : Heap} (hd : ∀ x ∈ L, x ∉ Lo) (hG : ∀ a ∈ L2, AA L H.size a) (hO : PP g Lo fo H) : ∀ x ∈ L2, x ∉ Lo := fun x hx z => (hG x hx).elim (fun k => hd x k z) (fun k => absurd (hO.lt z) (by omega))
theorem PP.spl_up {g : GG} {L L2 : List Nat} {f f2 : Nat → va_E} {H : Heap} {a : Nat} {e : va_E} (h : PP g (L ++ L2) (va_up (jn L f f2) a e) H) (hd : ∀ x ∈ L, x ∉ L2) (ha : a ∈ L) : PP g L (va_up f a e) H ∧ PP g L2 f2 H := by
  refine PP.spl (h.cg (fun x _ => ?_)) hd
  by_cases k : x ∈ L
  · rw [jn_in k]
    by_cases q : x = a
    · subst q; rw [va_up_self, va_up_self]
    · rw [va_up_ne _ _ q, va_up_ne _ _ q, jn_in k]
  · rw [jn_out k, va_up_ne _ _ (fun q => k (by rw [q]; exact ha)), jn_out k]
theorem PP.spl_new {g : GG} {L L2 : List Nat} {f f2 : Nat → va_E} {H : Heap} {q : Nat} {e : va_E} (h : PP g (q :: (L ++ L2)) (va_up (jn L f f2) q e) H) (hd : ∀ x ∈ L, x ∉ L2) (hq : q ∉ L ++ L2) : PP g (q :: L) (va_up f q e) H ∧ PP g L2 f2 H := by
  have q1 : q ∉ L := fun z => hq (List.mem_append.mpr (Or.inl z))
  have q2 : q ∉ L2 := fun z => hq (List.mem_append.mpr (Or.inr z))
  refine ⟨PP.of (fun b hb => ?_), PP.of (fun b hb => ?_)⟩
  · rcases List.mem_cons.mp hb with rfl | k
    · have := h.at List.mem_cons_self
      rw [va_up_self] at this ⊢
      exact this
    · have := h.at (List.mem_cons_of_mem _ (List.mem_append.mpr (Or.inl k)))
      have ne : b ≠ q := fun z => q1 (z ▸ k)
      rw [va_up_ne _ _ ne, jn_in k] at this
      rw [va_up_ne _ _ ne]
      exact this
  · have := h.at (List.mem_cons_of_mem _ (List.mem_append.mpr (Or.inr hb)))
    rw [va_up_ne _ _ (fun z => q2 (by rw [← z]; exact hb)), jn_out (fun z => hd b z hb)] at this
    exact this
theorem app_out {L L2 : List Nat} {q : Nat} (h : q ∉ L ++ L2) : q ∉ L ∧ q ∉ L2 := ⟨fun z => h (List.mem_append.mpr (Or.inl z)), fun z => h (List.mem_append.mpr (Or.inr z))⟩
theorem as_self (vm : Vm) (c : ClassId) : vm.assignable c c = true := by
  show vm.assignableAux 256 c c = true
  unfold Vm.assignableAux
  simp
section RR
variable {p : Program} {l : Launch} {e : Env} {R : Room} {s : State} {m : MethodId} {args : Array Value} {below : List Frame} {meth : Method} {c : Code} {H : Heap} {locs : List Loc} {cells slots : Nat} {Q : State → Prop}
variable {cc : ByteArray} {pc : Nat} {ls : Array Slot} {rest st0 : List Value} {g : GG} {L Lo : List Nat} {f fo : Nat → va_E} {a : Nat} {A : Nat → Prop} {H0 : Heap} {Ts : List Cond}
theorem pn_rald (hx : p.tables.exec = Jvm.exec) (hb : c.code = cc) (hK : KK g s) (hP : PP g L f H) (hL : a ∈ L) {n : Nat} {h : Nat → Option Nat} (hf : f a = eR g n h) {i : Int32} {j v : Nat} (hi : i = nI j) (hj : j < n) (hn : n < 2 ^ 31) (hv : h j = some v) (hdg : decode cc pc = .ok (.aaload, 1))
    (kk : W p l e R s m args below meth c H locs cells slots Q (F0 m (pc + 1) ls (.ref v :: rest))) : W p l e R s m args below meth c H locs cells slots Q (F0 m pc ls (.int i :: .ref a :: rest)) := by
  have hin := (pn_in hi hj hn).1
  have hlt : i.toNatClampNeg < n := Nat.not_le.mp fun q => hin (Or.inr q)
  have h0 := hP.at hL
  rw [hf] at h0
  refine W.aald (v := va_rf (h i.toNatClampNeg)) (ty := .array .int) hx hb h0 ((hK.1.2 4 _ rfl).1 n (fun j => va_rf (h j))) rfl (fun q => by cases q) (by show ¬ (i < 0 ∨ (arrV _ _ _).slots.size ≤ _); rw [arrV_size]; exact hin) (by show (arrV _ _ _).slots[_]? = _; rw [arrV_read _ _ hlt]) rfl rfl hdg ?_
  rw [(pn_in hi hj hn).2, hv]
  exact kk
theorem rr_cls (hK : KK g s) : ∃ (kA kI : Class), s.vm.classes[gR g]? = some kA ∧ kA.kind = .array (gI g) (.array .int) ∧ s.vm.classes[gI g]? = some kI := by
  obtain ⟨comp, c0, k, h1, h2, h3, h4, h5⟩ := arrayOverA_spec (va_AOA.use (A := #[]) hK.2.2.2.2)
  have e1 : some c0 = some (gR g) := h5.symm.trans (hK.1.2 4 _ rfl).2
  have e2 : some comp = some (gI g) := h1.symm.trans (hK.1.2 0 _ rfl).2
  cases e1
  cases e2
  obtain ⟨kI, hkI, -⟩ := Vm.findClass_spec h1
  exact ⟨k, kI, h3, h4, hkI⟩
theorem pn_rast (hx : p.tables.exec = Jvm.exec) (hb : c.code = cc) (hK : KK g s) (hP : PP g L f H) (hN : L.Nodup) (hA : ∀ a ∈ L, A a) (hS : va_S A H0 H locs) (hL : a ∈ L) {n v k : Nat} {h : Nat → Option Nat} (hf : f a = eR g n h) (hL2 : v ∈ L) {w : Nat → Int32} (hv : f v = eI g k w) {i : Int32} {j : Nat} (hi : i = nI j) (hj : j < n) (hn : n < 2 ^ 31) (hdg : decode cc pc = .ok (.aastore, 1))
    (kk : ∀ (H1 : Heap) (locs1 : List Loc), PP g L (va_up f a (eR g n (va_up h j (some v)))) H1 → va_S A H0 H1 locs1 → W p l e R s m args below meth c H1 locs1 cells slots Q (F0 m (pc + 1) ls rest)) : W p l e R s m args below meth c H locs cells slots Q (F0 m pc ls (.ref v :: .int i :: .ref a :: rest)) := by
  have hin := (pn_in hi hj hn).1
  have hlt : i.toNatClampNeg < n := Nat.not_le.mp fun q => hin (Or.inr q)
  have hi0 : ¬ i < 0 := fun q => hin (Or.inl q)
  obtain ⟨q0, h0⟩ := va_pl_get (X := []) (f := f) hL
  have h1 := h0
  rw [hf] at h1
  have hva := hP.at hL2
  rw [hv] at hva
  obtain ⟨kA, kI, k1, k2, k3⟩ := rr_cls hK
  refine W.aast hx hb (hP q0 _ h1) (fun q z => by cases z) (fun z => by cases z) k1 k2 rfl k3 ⟨hi0, by show _ < (arrV _ _ _).slots.size; rw [arrV_size]; exact hlt⟩ hva (fun q z => by cases z) k3 (as_self _ _) rfl rfl hdg fun H1 e1 z oq => ?_
  refine kk H1 _ ?_ (hS.put z oq (hA _ hL))
  refine PP.of (fun b hb => ?_)
  by_cases q : b = a
  · subst q
    rw [va_up_self]
    show H1[b]? = some (vp_cell _ _)
    rw [e1]
    rw [vp_cell_q, vp_cell_q, arrV_store, (pn_in hi hj hn).2]
    congr 2
    funext q
    by_cases hq : q = j
    · subst hq
      simp [updV, va_up, va_rf]
    · simp [updV, va_up, hq]
  · rw [va_up_ne _ _ q]
    exact (hP.at hb).kept (oq b q)
theorem pg_newR (hx : p.tables.exec = Jvm.exec) (hb : c.code = cc) {own : String} {index : Nat} (hown : s.vm.findClass own = some m.cls) (hclink : (Cond.classLink own index "[I").before args s = true) (hK : KK g s) (hP : PP g L f H) (hN : L.Nodup) (hA : ∀ a ∈ L, A a) (hA2 : ∀ q, H0.size ≤ q → A q) (hS : va_S A H0 H locs)
    {n : Int32} {k : Nat} (hn : n = nI k) (hk : k < 1000) (hcells : cells + 1 ≤ R.cells) (hslots : slots + k ≤ R.slots) (hdg : decode cc pc = .ok (.anewarray index, 3))
    (kk : ∀ (q : Nat) (H1 : Heap), q ∉ L → A q → PP g (q :: L) (va_up f q (eR g k (fun _ => none))) H1 → va_S A H0 H1 locs → W p l e R s m args below meth c H1 locs (cells + 1) (slots + k) Q (F0 m (pc + 3) ls (.ref q :: rest))) : W p l e R s m args below meth c H locs cells slots Q (F0 m pc ls (.int n :: rest)) := by
  subst hn
  have hk2 : (nI k).toNatClampNeg = k := nI_clamp (by omega)
  refine W.anewA (t := .int) hx hb hown hclink (va_AOA.use hK.2.2.2.2) rfl hdg rfl (nI_pos (by omega)) (by rw [hk2]; omega) hcells (by rw [hk2]; exact hslots) fun cA kA comp f1 f2 f3 f4 => ?_
  rw [hk2]
  have ec : some cA = some (gR g) := f1.symm.trans (hK.1.2 4 _ rfl).2
  cases ec
  generalize hH1 : H.push ({ cls := gR g, slots := Array.replicate k .null, vm := .none } : Cell) = H1
  have z1 : H1.size = H.size + 1 := by rw [← hH1, Array.size_push]
  have e1 : H1[H.size]? = some (arrV (gR g) k (fun _ => .null)) := by rw [← hH1, Array.getElem?_push_size, ← arrV_new]
  have o1 : ∀ q : Nat, q < H.size → H1[q]? = H[q]? := fun q hq => by rw [← hH1, Array.getElem?_push, if_neg (Nat.ne_of_lt hq)]
  have hq : H.size ∉ L := fun z => absurd (hP.lt z) (by omega)
  refine kk H.size H1 hq (hA2 _ hS.1) ?_ ⟨Nat.le_trans hS.1 (by omega), fun x h1 h2 => (o1 x (Nat.lt_of_lt_of_le h1 hS.1)).trans (hS.2.1 x h1 h2), hS.2.2⟩
  refine PP.of (fun b hb => ?_)
  rcases List.mem_cons.mp hb with rfl | hb
  · rw [va_up_self]
    show H1[H.size]? = some (vp_cell _ _)
    rw [e1, vp_cell_q]
    rfl
  · rw [va_up_ne _ _ (fun z => hq (by rw [← z]; exact hb))]
    exact (hP.at hb).kept (o1 b (hP.lt hb))
end RR
