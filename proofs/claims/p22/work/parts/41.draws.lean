/-! ===== a contract with a double answer, of a method that may draw ===== -/
abbrev RD (l : Launch) (g : GG) (y : MethodName) (ws : List Cond) (fr lo : Nat) (L : List Nat) (f : Nat → va_E) (sz : Nat) (As : List Value) (post : UInt64 → (Nat → va_E) → Prop) : Prop := MetD lw_cs l y ws ({ frames := fr, cells := 0, slots := 0, locals := lo }) (va_Pc As (wp_ g L f sz)) (va_Qd post (fun f2 t => PP g L f2 t.heap) (AA L sz)) 0 0 (AA L sz)
theorem RD.start {l : Launch} {g : GG} {L : List Nat} {f : Nat → va_E} {y : MethodName} {ws ws' : List Cond} {fr lo : Nat} {As : List Value} {cc : ByteArray} {maxL sz : Nat} {post : UInt64 → (Nat → va_E) → Prop} (hy : plainName y.cls = true) (hw : ws = Cond.code y cc maxL (some .double) :: ws') (hn : (lg_sl As).length ≤ maxL)
    (body : ∀ (p : Program) (e : Env) (s : State) (m : MethodId) (args : Array Value) (below : List Frame) (meth : Method) (c : Code) (Q : State → Prop) (ls : Array Slot) (A : Nat → Prop), p.tables.exec = Jvm.exec → c.code = cc → c.maxLocals = maxL → (∀ w ∈ ws, w.before args s = true) → s.vm.findClass y.cls = some m.cls → (∀ a ∈ L, A a) → (∀ q, s.heap.size ≤ q → A q) → va_S A s.heap s.heap [] → PP g L f s.heap → KK g s → lv_has ls maxL (lv_args 0 As) →
      (∀ d1 : Drawn, s.drawn.sameBut d1 lw_cs → ∀ (v : UInt64) (f2 : Nat → va_E) (H : Heap) (locs : List Loc) (pc : Nat) (ls : Array Slot), post v f2 → PP g L f2 H → va_S A s.heap H locs → decode cc pc = .ok (.dreturn, 1) → W p l e ({ frames := fr, cells := 0, slots := 0, locals := lo } : Room) (s.setDrawn d1) m args below meth c H locs 0 0 Q (F0 m pc ls [.double v])) →
      W p l e ({ frames := fr, cells := 0, slots := 0, locals := lo } : Room) s m args below meth c s.heap [] 0 0 Q (F0 m 0 ls [])) : RD l g y ws fr lo L f sz As post := by
  refine MetD.ofW (cc := cc) (maxL := maxL) (ret := some .double) hy hw ?_
  intro p e s m args below meth c s₁ B hml hv hd0
  obtain ⟨rfl, hsz, hP, hK⟩ := hv
  subst hsz
  have hl := lv_entry As (n := maxL) hn
  rw [lg_entry_eq]
  have hlk := B.notSynchronized
  exact body p e s m _ below meth c _ _ (AA L s.heap.size) B.exec B.bytes hml (atoms_spec (ws := ws) B.pre) (findClass_of_methodNamed B.named) (fun _ h => Or.inl h) (fun _ h => Or.inr h) va_S.rf hP hK hl (fun d1 hd1 v f2 H locs pc ls hp hP2 hS hd => W.endD hd1 (W.dret B.exec B.bytes B.returns (fun t ht hW => ⟨⟨v, f2, rfl, hp, by dsimp only; rw [ht]; exact hP2⟩, hS.F ht⟩) hS.2.2 hd hlk))
/-- the mean of a sum over n, as the machine divides -/
def meanD (a : Int32) (n : Nat) (r : UInt64) : Prop := (n = 0 ∧ r = FP.dconst0) ∨ (n ≠ 0 ∧ alike64 r (FP.ddiv (FP.i2d a) (FP.i2d (nI n))) = true)
theorem sdM_sdM (kd nu gl rn : Nat → Int32) (n d : Nat) (sd : Nat → Int32) : sdM kd nu gl rn n d (sdM kd nu gl rn n d sd) = sdM kd nu gl rn n d sd := by
  funext j
  unfold sdM mapN
  by_cases h : j < n
  · simp [h]
  · simp [h]
theorem sd_fix {kd nu gl rn : Nat → Int32} {n d : Nat} {sa SA sx : Nat → Int32} (h : sx = sa ∨ sx = SA) (e : SA = sdM kd nu gl rn n d sa) : sdM kd nu gl rn n d sx = SA := by
  rcases h with rfl | rfl
  · exact e.symm
  · rw [e, sdM_sdM]
theorem sd_or {kd nu gl rn : Nat → Int32} {n d : Nat} {sa SA sx : Nat → Int32} (h : sx = sa ∨ sx = SA) (e : SA = sdM kd nu gl rn n d sa) (q : Prop) [Decidable q] : (if q then sdM kd nu gl rn n d sx else sx) = sa ∨ (if q then sdM kd nu gl rn n d sx else sx) = SA := by
  by_cases z : q
  · rw [if_pos z]; exact Or.inr (sd_fix h e)
  · rw [if_neg z]; exact h
