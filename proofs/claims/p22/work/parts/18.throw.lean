/-! ===== methods that may throw: nothing of the world is changed then; the thrown object is a new cell ===== -/
def strW : List (String × Nat × String) := [("BarometerLeague", 251, "there is nothing of this number to tell"), ("BarometerLeague", 247, "there is no such sign"), ("BarometerLeague$VillageRow", 30, "there is no such village"), ("BarometerLeague", 245, "the day of the table is 0 to 11"), ("BarometerLeague", 44, "the glass stands at 0 to 60"), ("BarometerLeague", 65, "the kinds of signs are 0 to 5"), ("BarometerLeague", 67, "the number of a sign is 0 to 60"), ("BarometerLeague", 75, "there are 8 signs"), ("BarometerLeague", 90, "there are 6 villages"), ("BarometerLeague", 103, "a weight is 0 to 100"), ("BarometerLeague", 249, "both villages are the same"), ("BarometerLeague", 120, "the village has fewer than 5 coins"), ("BarometerLeague", 126, "the day is 0 to 999"), ("BarometerLeague", 182, "there is no such place"), ("BarometerLeague", 253, "the number of days is out of range")]
abbrev SS (U : State) : Prop := ∀ q ∈ strW, ∃ sa, vk_R q.1 q.2.1 q.2.2 sa U
def ZZ (L : List Nat) (sz : Nat) (U : State) : Prop := vx_Zq Bundle.tN "UNASSIGNED_STACK" Bundle.steD (AA L sz) U U.heap ∧ vx_Zq Bundle.tN "SUPPRESSED_SENTINEL" Bundle.listD (AA L sz) U U.heap ∧ SS U
theorem AA_mono {L : List Nat} {a b : Nat} (h : a ≤ b) : ∀ q, AA L b q → AA L a q := fun q k => k.elim Or.inl (fun z => Or.inr (Nat.le_trans h z))
theorem ZZ.step {L : List Nat} {s U : State} {H : Heap} {locs : List Loc} (h : ZZ L s.heap.size s) (hS : va_S (AA L s.heap.size) s.heap H locs) (hU : U.heap = H) (hW : s.WarmedH U.vm) : ZZ L H.size U := by
  subst hU
  exact ⟨vx_Zq.narrow (vx_Zq.kept (vx_Zq.moved hW.alike h.1) hS.2.1) (AA_mono hS.1), vx_Zq.narrow (vx_Zq.kept (vx_Zq.moved hW.alike h.2.1) hS.2.1) (AA_mono hS.1), fun q hq => (h.2.2 q hq).elim (fun a k => ⟨a, vk_R.warm hW k⟩)⟩
theorem ZZ.same {L : List Nat} {sz : Nat} {s : State} {gg : JFrame} {mk : MethodId} {a : Array Value} (h : ZZ L sz s) : ZZ L sz (s.calling gg mk a) :=
  ⟨vx_Zq.moved (u := s) (U := s.calling gg mk a) (Vm.Alike.refl s.vm) h.1, vx_Zq.moved (u := s) (U := s.calling gg mk a) (Vm.Alike.refl s.vm) h.2.1, fun q hq => (h.2.2 q hq).elim (fun z k => ⟨z, vk_R.same (u := s) (U := s.calling gg mk a) rfl k⟩)⟩
abbrev tp (g : GG) (L : List Nat) (f : Nat → va_E) (sz : Nat) : State → Prop := fun U => U.heap.size = sz ∧ PP g L f U.heap ∧ KK g U ∧ ZZ L sz U
theorem tp_blind {g : GG} {L : List Nat} {f : Nat → va_E} {sz : Nat} {As : List Value} : FrameBlind (va_Pc As (tp g L f sz)) := fun a U gg mk q => ⟨q.1, q.2.1, q.2.2.1, KK.same (s := U) (U := U.calling gg mk a) rfl q.2.2.2.1, ZZ.same q.2.2.2.2⟩
abbrev XX (g : GG) (L : List Nat) (f : Nat → va_E) (sz : Nat) (xc : String → Prop) : String → State → State → Prop := vx_X (fun _ : Unit => True) (fun E _ t => xc E ∧ PP g L f t.heap) (AA L sz)
abbrev TQ (l : Launch) (g : GG) (y : MethodName) (ws : List Cond) (fr lo mc ms : Nat) (L : List Nat) (f : Nat → va_E) (sz : Nat) (As : List Value) (Qc : Array Value → State → Outcome → State → Prop) (xc : String → Prop) : Prop := vx_Met l y ws ({ frames := fr, cells := mc, slots := ms, locals := lo }) (va_Pc As (tp g L f sz)) Qc (XX g L f sz xc) mc ms (AA L sz)
abbrev TW (l : Launch) (g : GG) (y : MethodName) (ws : List Cond) (fr lo mc ms : Nat) (L : List Nat) (f : Nat → va_E) (sz : Nat) (As : List Value) (post : Int32 → (Nat → va_E) → Prop) (xc : String → Prop) : Prop := TQ l g y ws fr lo mc ms L f sz As (va_Qi post (fun f2 t => PP g L f2 t.heap) (AA L sz)) xc
abbrev TL (l : Launch) (g : GG) (y : MethodName) (ws : List Cond) (fr lo mc ms : Nat) (L : List Nat) (f : Nat → va_E) (sz : Nat) (As : List Value) (post : Int64 → (Nat → va_E) → Prop) (xc : String → Prop) : Prop := TQ l g y ws fr lo mc ms L f sz As (va_Ql post (fun f2 t => PP g L f2 t.heap) (AA L sz)) xc
abbrev TV (l : Launch) (g : GG) (y : MethodName) (ws : List Cond) (fr lo mc ms : Nat) (L : List Nat) (f : Nat → va_E) (sz : Nat) (As : List Value) (post : (Nat → va_E) → Prop) (xc : String → Prop) : Prop := TQ l g y ws fr lo mc ms L f sz As (va_Qv post (fun f2 t => PP g L f2 t.heap) (AA L sz)) xc
abbrev TR (l : Launch) (g : GG) (y : MethodName) (ws : List Cond) (fr lo mc ms : Nat) (L : List Nat) (f : Nat → va_E) (sz : Nat) (As : List Value) (post : Nat → Prop) (xc : String → Prop) : Prop := TQ l g y ws fr lo mc ms L f sz As (va_Qr post (fun x a t => a = x ∧ PP g L f t.heap) (AA L sz)) xc
abbrev xN : List String := ["java/lang/RuntimeException", "java/lang/Exception"]
abbrev xB (X : String) : List Cond := [.castable X X, .declares ⟨"java/lang/RuntimeException", "<init>", "(Ljava/lang/String;)V"⟩, .declares ⟨"java/lang/Exception", "<init>", "(Ljava/lang/String;)V"⟩, .declares ⟨"java/lang/Throwable", "<init>", "(Ljava/lang/String;)V"⟩]
/-- 'throw new X(text)' -/
abbrev ThrowAt (cc : ByteArray) (ik is ic pc : Nat) : Prop := decode cc pc = .ok (.new ik, 3) ∧ decode cc (pc + 3) = .ok (.dup, 1) ∧ decode cc (pc + 4) = .ok (.ldc is, 2) ∧ decode cc (pc + 6) = .ok (.invokespecial ic, 3) ∧ decode cc (pc + 9) = .ok (.athrow, 1)
theorem tx_hat {g : GG} {args : Array Value} {s : State} {own X : String} {ic k : Nat} (hK : KK g s) (hk : nestW[k]? = some (.castable X X)) (h1 : ∀ w ∈ (vx_atS own ic X xN).filter goodWord, w.before args s = true) (h2 : ∀ w ∈ (vx_atS own ic X xN).filter (fun w => !goodWord w), w ∈ xB X) : ∀ w ∈ vx_atS own ic X xN, w.before args s = true :=
  vx_hat h1 h2 (fun w hw => by
    simp only [xB, List.mem_cons, List.not_mem_nil, or_false] at hw
    rcases hw with rfl | rfl | rfl | rfl
    · exact hK.nest k hk
    · exact hK.nest 78 rfl
    · exact hK.nest 79 rfl
    · exact hK.nest 80 rfl)
section VXR
variable {p : Program} {l : Launch} {e : Env} {R : Room} {s : State} {m : MethodId} {args : Array Value} {below : List Frame} {meth : Method} {c : Code} {H : Heap} {locs : List Loc} {cells slots : Nat} {Q : State → Prop}
variable {mc ms : Nat} {free : Addr → Prop} {A0 A1 : Nat → Prop} {H0 : Heap} {a : Array Value} {pc : Nat} {ls : Array Slot} {st0 rest : List Value}
theorem tx_callr {S SX : Type} {post : S → Prop} {px : SX → Prop} {B : S → Nat → State → Prop} {BX : String → SX → State → Prop} {AX : Nat → Prop} (hr : vx_Run p l e R s m args below meth c H locs cells slots mc ms (F0 m pc ls st0) rest (va_Qr post B A1 a) (vx_X px BX AX) free) (hS : va_S A0 H0 H locs) (hA : ∀ q, q < H.size → A1 q → A0 q) (hf : ∀ q, free q → A0 q) (hAX : ∀ q, q < H.size → AX q → A0 q)
    (kx : ∀ (E : String) (ce : Cell) (q9 : Addr) (u : SX) (t : State) (H1 : Heap) (locs1 : List Loc), t.heap = H1 → s.vm.Alike t.vm → px u → BX E u t → H.size ≤ H1.size → (∀ q : Nat, q < H.size → ¬ AX q → H1[q]? = H[q]?) → va_S A0 H0 H1 locs1 → H1[q9]? = some ce → ce.vm = .none → s.vm.findClass E = some ce.cls → vx_W p l e R s m args below meth c H1 locs1 (cells + mc) (slots + ms) Q (F0 m pc ls rest) q9)
    (kk : ∀ (u : S) (ra : Nat) (t : State) (H1 : Heap) (locs1 : List Loc), t.heap = H1 → s.vm.Alike t.vm → post u → B u ra t → H.size ≤ H1.size → (∀ q : Nat, q < H.size → ¬ A1 q → H1[q]? = H[q]?) → va_S A0 H0 H1 locs1 → W p l e R s m args below meth c H1 locs1 (cells + mc) (slots + ms) Q (F0 m (pc + 3) ls (.ref ra :: rest))) : W p l e R s m args below meth c H locs cells slots Q (F0 m pc ls st0) := by
  intro T hT X
  rcases hr T hT X with ⟨v, st₀, t, T', L, h0, X', hL, e1, e2, ⟨⟨u, ra, hv, hp, hb⟩, hF⟩, st⟩ | ⟨q, st₀, t, T', L, E, ce, h0, X', hL, e1, e2, ⟨u, hp, hb, hF⟩, hce, hcv, hcl, st⟩
  · cases hv
    obtain ⟨k1, k2, k3⟩ := vx_keep h0 e1 hS hA hf hL hF
    obtain ⟨t2, a1, b1⟩ := kk u ra t T'.heap (locs ++ L) e1.symm (by rw [← e2]; exact X'.warmed.alike) hp hb k1 k2 k3 T' rfl X'
    exact ⟨t2, st t2 a1, b1⟩
  · obtain ⟨k1, k2, k3⟩ := vx_keep h0 e1 hS hAX hf hL hF
    obtain ⟨t2, a1, b1⟩ := kx E ce q u t T'.heap (locs ++ L) e1.symm (by rw [← e2]; exact X'.warmed.alike) hp hb k1 k2 k3 (by rw [e1]; exact hce) hcv hcl T' rfl X'
    exact ⟨t2, st.trans a1, b1⟩
end VXR
section TS
variable {l : Launch} {g : GG} {L : List Nat} {f : Nat → va_E} {y : MethodName} {ws ws' : List Cond} {fr lo mc ms : Nat} {As : List Value} {cc : ByteArray} {maxL sz : Nat} {xc : String → Prop}
theorem TW.start {ret : FieldType} {post : Int32 → (Nat → va_E) → Prop} (hst : l.stackTraces = false) (hy : plainName y.cls = true) (hw : ws = Cond.code y cc maxL (some ret) :: ws') (hn : (lg_sl As).length ≤ maxL) (hfr : 6 ≤ fr) (hlo : 90 ≤ lo)
    (body : ∀ (p : Program) (e : Env) (s : State) (m : MethodId) (args : Array Value) (below : List Frame) (meth : Method) (c : Code) (Q : State → Prop) (ls : Array Slot), p.tables.exec = Jvm.exec → c.code = cc → c.maxLocals = maxL → (∀ w ∈ ws, w.before args s = true) → s.vm.findClass y.cls = some m.cls → va_S (AA L s.heap.size) s.heap s.heap [] → PP g L f s.heap → KK g s → ZZ L s.heap.size s → lv_has ls maxL (lv_args 0 As) →
      (∀ (v : Int32) (f2 : Nat → va_E) (H : Heap) (locs : List Loc) (k n pc : Nat) (ls : Array Slot), post v f2 → PP g L f2 H → va_S (AA L s.heap.size) s.heap H locs → narrow ret (.int v) = .int v → k ≤ mc → n ≤ ms → decode cc pc = .ok (.ireturn, 1) → W p l e ({ frames := fr, cells := mc, slots := ms, locals := lo } : Room) s m args below meth c H locs k n Q (F0 m pc ls [.int v])) →
      (∀ (X text : String) (k j ik is ic : Nat) (H : Heap) (locs : List Loc) (cells slots pc : Nat) (ls : Array Slot), xc X → PP g L f H → va_S (AA L s.heap.size) s.heap H locs → cells + 1 ≤ mc → slots + 6 ≤ ms → Bundle.fit X = true → nestW[k]? = some (.castable X X) → strW[j]? = some (y.cls, is, text) → (Cond.classLink y.cls ik X).before args s = true → (Cond.initialized X).before args s = true →
        (∀ w ∈ (vx_atS y.cls ic X xN).filter goodWord, w ∈ ws) → (∀ w ∈ (vx_atS y.cls ic X xN).filter (fun w => !goodWord w), w ∈ xB X) → (∀ w ∈ Cond.classLink y.cls ik X :: Cond.initialized X :: vx_atS y.cls ic X xN, vx_ot w = true) → ls.size = maxL → ThrowAt cc ik is ic pc →
        W p l e ({ frames := fr, cells := mc, slots := ms, locals := lo } : Room) s m args below meth c H locs cells slots Q (F0 m pc ls [])) →
      (∀ (E : String) (ce : Cell) (q9 : Addr) (H : Heap) (locs : List Loc) (cells slots pc : Nat) (ls : Array Slot) (rest : List Value), xc E → PP g L f H → va_S (AA L s.heap.size) s.heap H locs → H[q9]? = some ce → ce.vm = .none → s.vm.findClass E = some ce.cls → cells ≤ mc → slots ≤ ms → vx_W p l e ({ frames := fr, cells := mc, slots := ms, locals := lo } : Room) s m args below meth c H locs cells slots Q (F0 m pc ls rest) q9) →
      W p l e ({ frames := fr, cells := mc, slots := ms, locals := lo } : Room) s m args below meth c s.heap [] 0 0 Q (F0 m 0 ls [])) : TW l g y ws fr lo mc ms L f sz As post xc := by
  refine vx_ofW (cc := cc) (maxL := maxL) (ret := (some ret)) hy hw ?_
  intro p e s m args below meth c s₁ B hml hno hv
  obtain ⟨rfl, hsz, hP, hK, hZ⟩ := hv
  subst hsz
  have hl := lv_entry As (n := maxL) hn
  rw [lg_entry_eq]
  have hlk := B.notSynchronized
  have hts := atoms_spec (ws := ws) B.pre
  have hown := findClass_of_methodNamed B.named
  refine body p e s m _ below meth c _ _ B.exec B.bytes hml hts hown va_S.rf hP hK hZ hl ?_ ?_ ?_
  · exact fun v f2 H locs k n pc ls hp hP2 hS hnr hk hn hd => W.widen hk hn (vx_ret (W.zret (ty := ret) B.exec B.bytes B.returns hnr (fun t ht hW => ⟨⟨v, f2, rfl, hp, by dsimp only; rw [ht]; exact hP2⟩, hS.F ht⟩) hS.2.2 hd hlk))
  · intro X text k j ik is ic H locs cells slots pc ls hxc hP2 hS hc hs hfit hk hj hkl hini hat1 hat2 hgood hsize hd
    obtain ⟨sa, hstr⟩ := hZ.2.2 _ (List.mem_of_getElem? hj)
    obtain ⟨d0, d3, d4, d6, d9⟩ := hd
    exact vx_throwS B.exec B.bytes hst hown hfit (by decide) hkl hini hstr (tx_hat hK hk (fun w hw => hts w (hat1 w hw)) hat2) hgood hZ.1 hZ.2.1 hS (hsize.trans hml.symm) d0 d3 d4 d6 d9 (fun x hx => (hno x hx).elim) (by show 2 + 3 < fr; omega) (by show 0 + (13 * (2 + 1) + 43) ≤ lo; omega) hc hs hlk
      (fun t _ h2 h3 => ⟨(), trivial, ⟨hxc, PP.kept hP2 (fun a ha => h3 a (hP2.lt ha))⟩, ⟨Nat.le_trans hS.1 h2, fun q q1 q2 => (h3 q (Nat.lt_of_lt_of_le q1 hS.1)).trans (hS.2.1 q q1 q2)⟩⟩) hS.2.2 hc hs
  · intro E ce q9 H locs cells slots pc ls rest hxc hP2 hS hcell hv hcl hk hn
    exact vx_out (fun x hx => (hno x hx).elim) hlk hcell hv hcl (fun t ht _ => ⟨(), trivial, ⟨hxc, by rw [ht]; exact hP2⟩, hS.F ht⟩) hS.2.2 hk hn
theorem TV.start {post : (Nat → va_E) → Prop} (hst : l.stackTraces = false) (hy : plainName y.cls = true) (hw : ws = Cond.code y cc maxL none :: ws') (hn : (lg_sl As).length ≤ maxL) (hfr : 6 ≤ fr) (hlo : 90 ≤ lo)
    (body : ∀ (p : Program) (e : Env) (s : State) (m : MethodId) (args : Array Value) (below : List Frame) (meth : Method) (c : Code) (Q : State → Prop) (ls : Array Slot), p.tables.exec = Jvm.exec → c.code = cc → c.maxLocals = maxL → (∀ w ∈ ws, w.before args s = true) → s.vm.findClass y.cls = some m.cls → va_S (AA L s.heap.size) s.heap s.heap [] → PP g L f s.heap → KK g s → ZZ L s.heap.size s → lv_has ls maxL (lv_args 0 As) →
      (∀ (f2 : Nat → va_E) (H : Heap) (locs : List Loc) (k n pc : Nat) (ls : Array Slot), post f2 → PP g L f2 H → va_S (AA L s.heap.size) s.heap H locs → k ≤ mc → n ≤ ms → decode cc pc = .ok (.return_, 1) → W p l e ({ frames := fr, cells := mc, slots := ms, locals := lo } : Room) s m args below meth c H locs k n Q (F0 m pc ls [])) →
      (∀ (X text : String) (k j ik is ic : Nat) (H : Heap) (locs : List Loc) (cells slots pc : Nat) (ls : Array Slot), xc X → PP g L f H → va_S (AA L s.heap.size) s.heap H locs → cells + 1 ≤ mc → slots + 6 ≤ ms → Bundle.fit X = true → nestW[k]? = some (.castable X X) → strW[j]? = some (y.cls, is, text) → (Cond.classLink y.cls ik X).before args s = true → (Cond.initialized X).before args s = true →
        (∀ w ∈ (vx_atS y.cls ic X xN).filter goodWord, w ∈ ws) → (∀ w ∈ (vx_atS y.cls ic X xN).filter (fun w => !goodWord w), w ∈ xB X) → (∀ w ∈ Cond.classLink y.cls ik X :: Cond.initialized X :: vx_atS y.cls ic X xN, vx_ot w = true) → ls.size = maxL → ThrowAt cc ik is ic pc →
        W p l e ({ frames := fr, cells := mc, slots := ms, locals := lo } : Room) s m args below meth c H locs cells slots Q (F0 m pc ls [])) →
      (∀ (E : String) (ce : Cell) (q9 : Addr) (H : Heap) (locs : List Loc) (cells slots pc : Nat) (ls : Array Slot) (rest : List Value), xc E → PP g L f H → va_S (AA L s.heap.size) s.heap H locs → H[q9]? = some ce → ce.vm = .none → s.vm.findClass E = some ce.cls → cells ≤ mc → slots ≤ ms → vx_W p l e ({ frames := fr, cells := mc, slots := ms, locals := lo } : Room) s m args below meth c H locs cells slots Q (F0 m pc ls rest) q9) →
      W p l e ({ frames := fr, cells := mc, slots := ms, locals := lo } : Room) s m args below meth c s.heap [] 0 0 Q (F0 m 0 ls [])) : TV l g y ws fr lo mc ms L f sz As post xc := by
  refine vx_ofW (cc := cc) (maxL := maxL) (ret := none) hy hw ?_
  intro p e s m args below meth c s₁ B hml hno hv
  obtain ⟨rfl, hsz, hP, hK, hZ⟩ := hv
  subst hsz
  have hl := lv_entry As (n := maxL) hn
  rw [lg_entry_eq]
  have hlk := B.notSynchronized
  have hts := atoms_spec (ws := ws) B.pre
  have hown := findClass_of_methodNamed B.named
  refine body p e s m _ below meth c _ _ B.exec B.bytes hml hts hown va_S.rf hP hK hZ hl ?_ ?_ ?_
  · exact fun f2 H locs k n pc ls hp hP2 hS hk hn hd => W.widen hk hn (vx_ret (W.vret B.exec B.bytes B.returns (fun t ht hW => ⟨⟨f2, rfl, hp, by dsimp only; rw [ht]; exact hP2⟩, hS.F ht⟩) hS.2.2 hd hlk))
  · intro X text k j ik is ic H locs cells slots pc ls hxc hP2 hS hc hs hfit hk hj hkl hini hat1 hat2 hgood hsize hd
    obtain ⟨sa, hstr⟩ := hZ.2.2 _ (List.mem_of_getElem? hj)
    obtain ⟨d0, d3, d4, d6, d9⟩ := hd
    exact vx_throwS B.exec B.bytes hst hown hfit (by decide) hkl hini hstr (tx_hat hK hk (fun w hw => hts w (hat1 w hw)) hat2) hgood hZ.1 hZ.2.1 hS (hsize.trans hml.symm) d0 d3 d4 d6 d9 (fun x hx => (hno x hx).elim) (by show 2 + 3 < fr; omega) (by show 0 + (13 * (2 + 1) + 43) ≤ lo; omega) hc hs hlk
      (fun t _ h2 h3 => ⟨(), trivial, ⟨hxc, PP.kept hP2 (fun a ha => h3 a (hP2.lt ha))⟩, ⟨Nat.le_trans hS.1 h2, fun q q1 q2 => (h3 q (Nat.lt_of_lt_of_le q1 hS.1)).trans (hS.2.1 q q1 q2)⟩⟩) hS.2.2 hc hs
  · intro E ce q9 H locs cells slots pc ls rest hxc hP2 hS hcell hv hcl hk hn
    exact vx_out (fun x hx => (hno x hx).elim) hlk hcell hv hcl (fun t ht _ => ⟨(), trivial, ⟨hxc, by rw [ht]; exact hP2⟩, hS.F ht⟩) hS.2.2 hk hn
theorem TR.start {ret : FieldType} {post : Nat → Prop} (hst : l.stackTraces = false) (hy : plainName y.cls = true) (hw : ws = Cond.code y cc maxL (some ret) :: ws') (hn : (lg_sl As).length ≤ maxL) (hfr : 6 ≤ fr) (hlo : 90 ≤ lo) (hrt : (∃ n, ret = .object n) ∨ ∃ t, ret = .array t)
    (body : ∀ (p : Program) (e : Env) (s : State) (m : MethodId) (args : Array Value) (below : List Frame) (meth : Method) (c : Code) (Q : State → Prop) (ls : Array Slot), p.tables.exec = Jvm.exec → c.code = cc → c.maxLocals = maxL → (∀ w ∈ ws, w.before args s = true) → s.vm.findClass y.cls = some m.cls → va_S (AA L s.heap.size) s.heap s.heap [] → PP g L f s.heap → KK g s → ZZ L s.heap.size s → lv_has ls maxL (lv_args 0 As) →
      (∀ (x : Nat) (H : Heap) (locs : List Loc) (k n pc : Nat) (ls : Array Slot), post x → PP g L f H → va_S (AA L s.heap.size) s.heap H locs → k ≤ mc → n ≤ ms → decode cc pc = .ok (.areturn, 1) → W p l e ({ frames := fr, cells := mc, slots := ms, locals := lo } : Room) s m args below meth c H locs k n Q (F0 m pc ls [.ref x])) →
      (∀ (X text : String) (k j ik is ic : Nat) (H : Heap) (locs : List Loc) (cells slots pc : Nat) (ls : Array Slot), xc X → PP g L f H → va_S (AA L s.heap.size) s.heap H locs → cells + 1 ≤ mc → slots + 6 ≤ ms → Bundle.fit X = true → nestW[k]? = some (.castable X X) → strW[j]? = some (y.cls, is, text) → (Cond.classLink y.cls ik X).before args s = true → (Cond.initialized X).before args s = true →
        (∀ w ∈ (vx_atS y.cls ic X xN).filter goodWord, w ∈ ws) → (∀ w ∈ (vx_atS y.cls ic X xN).filter (fun w => !goodWord w), w ∈ xB X) → (∀ w ∈ Cond.classLink y.cls ik X :: Cond.initialized X :: vx_atS y.cls ic X xN, vx_ot w = true) → ls.size = maxL → ThrowAt cc ik is ic pc →
        W p l e ({ frames := fr, cells := mc, slots := ms, locals := lo } : Room) s m args below meth c H locs cells slots Q (F0 m pc ls [])) →
      (∀ (E : String) (ce : Cell) (q9 : Addr) (H : Heap) (locs : List Loc) (cells slots pc : Nat) (ls : Array Slot) (rest : List Value), xc E → PP g L f H → va_S (AA L s.heap.size) s.heap H locs → H[q9]? = some ce → ce.vm = .none → s.vm.findClass E = some ce.cls → cells ≤ mc → slots ≤ ms → vx_W p l e ({ frames := fr, cells := mc, slots := ms, locals := lo } : Room) s m args below meth c H locs cells slots Q (F0 m pc ls rest) q9) →
      W p l e ({ frames := fr, cells := mc, slots := ms, locals := lo } : Room) s m args below meth c s.heap [] 0 0 Q (F0 m 0 ls [])) : TR l g y ws fr lo mc ms L f sz As post xc := by
  refine vx_ofW (cc := cc) (maxL := maxL) (ret := (some ret)) hy hw ?_
  intro p e s m args below meth c s₁ B hml hno hv
  obtain ⟨rfl, hsz, hP, hK, hZ⟩ := hv
  subst hsz
  have hl := lv_entry As (n := maxL) hn
  rw [lg_entry_eq]
  have hlk := B.notSynchronized
  have hts := atoms_spec (ws := ws) B.pre
  have hown := findClass_of_methodNamed B.named
  refine body p e s m _ below meth c _ _ B.exec B.bytes hml hts hown va_S.rf hP hK hZ hl ?_ ?_ ?_
  · exact fun x H locs k n pc ls hp hP2 hS hk hn hd => W.widen hk hn (vx_ret (W.aret B.exec B.bytes B.returns hrt (Or.inr ⟨_, rfl⟩) (fun t ht hW => ⟨⟨x, x, rfl, hp, rfl, by rw [ht]; exact hP2⟩, hS.F ht⟩) hS.2.2 hd hlk))
  · intro X text k j ik is ic H locs cells slots pc ls hxc hP2 hS hc hs hfit hk hj hkl hini hat1 hat2 hgood hsize hd
    obtain ⟨sa, hstr⟩ := hZ.2.2 _ (List.mem_of_getElem? hj)
    obtain ⟨d0, d3, d4, d6, d9⟩ := hd
    exact vx_throwS B.exec B.bytes hst hown hfit (by decide) hkl hini hstr (tx_hat hK hk (fun w hw => hts w (hat1 w hw)) hat2) hgood hZ.1 hZ.2.1 hS (hsize.trans hml.symm) d0 d3 d4 d6 d9 (fun x hx => (hno x hx).elim) (by show 2 + 3 < fr; omega) (by show 0 + (13 * (2 + 1) + 43) ≤ lo; omega) hc hs hlk
      (fun t _ h2 h3 => ⟨(), trivial, ⟨hxc, PP.kept hP2 (fun a ha => h3 a (hP2.lt ha))⟩, ⟨Nat.le_trans hS.1 h2, fun q q1 q2 => (h3 q (Nat.lt_of_lt_of_le q1 hS.1)).trans (hS.2.1 q q1 q2)⟩⟩) hS.2.2 hc hs
  · intro E ce q9 H locs cells slots pc ls rest hxc hP2 hS hcell hv hcl hk hn
    exact vx_out (fun x hx => (hno x hx).elim) hlk hcell hv hcl (fun t ht _ => ⟨(), trivial, ⟨hxc, by rw [ht]; exact hP2⟩, hS.F ht⟩) hS.2.2 hk hn
end TS
section TC
variable {p : Program} {l : Launch} {e : Env} {R : Room} {s : State} {m : MethodId} {args : Array Value} {below : List Frame} {meth : Method} {c : Code} {H : Heap} {locs : List Loc} {cells slots : Nat} {Q : State → Prop}
variable {cc : ByteArray} {pc : Nat} {ls : Array Slot} {rest st0 : List Value} {g : GG} {L : List Nat} {f : Nat → va_E} {b : Nat} {Ts ws : List Cond} {own C : String} {y : MethodName} {bytes : ByteArray} {maxL nL n index fr lo mc ms : Nat} {ret : Option FieldType} {As : List Value} {xc : String → Prop}
abbrev KX (p : Program) (l : Launch) (e : Env) (R : Room) (s : State) (m : MethodId) (args : Array Value) (below : List Frame) (meth : Method) (c : Code) (cells slots : Nat) (Q : State → Prop) (g : GG) (L : List Nat) (f : Nat → va_E) (xc : String → Prop) (pc : Nat) (ls : Array Slot) (rest : List Value) : Prop :=
  ∀ (E : String) (ce : Cell) (q9 : Addr) (H1 : Heap) (locs1 : List Loc), xc E → PP g L f H1 → va_S (AA L s.heap.size) s.heap H1 locs1 → H1[q9]? = some ce → ce.vm = .none → s.vm.findClass E = some ce.cls → vx_W p l e R s m args below meth c H1 locs1 cells slots Q (F0 m pc ls rest) q9
theorem tw_V (S : CallFix p m c cc nL s args Ts own) {post : Int32 → (Nat → va_E) → Prop} (hM : TW l g y ws fr lo mc ms L f H.size (.ref b :: As) post xc) (cw : CallW R s args own C index y bytes maxL ret ws ({ frames := fr, cells := mc, slots := ms, locals := lo }) mc ms n) (hK : KK g s) (hZ : ZZ L s.heap.size s) (hP : PP g L f H) (hS : va_S (AA L s.heap.size) s.heap H locs) (hL : b ∈ L) {ci : Nat} {fs : List Value} {T : u_T} {N : Nat} (hf : f b = .inr (ci, fs)) (hc : vwCl[ci]? = some (C, T, N))
    (hn : As.length = n) (hsize : ls.size = nL) (hstack : st0 = As.reverse ++ .ref b :: rest) (hW : (rest.map fun v => v.category).sum ≤ 8) (hdg : decode cc pc = .ok (.invokevirtual index, 3)) (hcs : cells + mc ≤ R.cells ∧ slots + ms ≤ R.slots)
    (kx : KX p l e R s m args below meth c (cells + mc) (slots + ms) Q g L f xc pc ls rest)
    (kk : ∀ (r : Int32) (f2 : Nat → va_E) (H1 : Heap) (locs1 : List Loc), post r f2 → PP g L f2 H1 → va_S (AA L s.heap.size) s.heap H1 locs1 → W p l e R s m args below meth c H1 locs1 (cells + mc) (slots + ms) Q (F0 m (pc + 3) ls (.int r :: rest))) : W p l e R s m args below meth c H locs cells slots Q (F0 m pc ls st0) :=
  vx_calli (vx_runV S hM cw ⟨tp_blind, pg_recv hK hP hL hf hc, fun U hU hW => ⟨rfl, by rw [hU], by rw [hU]; exact hP, KK.warm hW hK, ZZ.step hZ hS hU hW⟩⟩ rfl hn hsize hstack (lv_room hW) hdg hcs) hS (AA_old (fun _ h => Or.inl h)) (AA_free (fun _ h => Or.inl h) (fun _ h => Or.inr h) hS) (AA_old (fun _ h => Or.inl h)) (fun E ce q9 u t H1 locs1 ht _ _ hB _ _ hS1 h1 h2 h3 => kx E ce q9 H1 locs1 hB.1 (by rw [← ht]; exact hB.2) hS1 h1 h2 h3) (fun r f2 t H1 locs1 ht _ hw hB _ _ hS1 => kk r f2 H1 locs1 hw (by rw [← ht]; exact hB) hS1)
theorem tl_V (S : CallFix p m c cc nL s args Ts own) {post : Int64 → (Nat → va_E) → Prop} (hM : TL l g y ws fr lo mc ms L f H.size (.ref b :: As) post xc) (cw : CallW R s args own C index y bytes maxL ret ws ({ frames := fr, cells := mc, slots := ms, locals := lo }) mc ms n) (hK : KK g s) (hZ : ZZ L s.heap.size s) (hP : PP g L f H) (hS : va_S (AA L s.heap.size) s.heap H locs) (hL : b ∈ L) {ci : Nat} {fs : List Value} {T : u_T} {N : Nat} (hf : f b = .inr (ci, fs)) (hc : vwCl[ci]? = some (C, T, N))
    (hn : As.length = n) (hsize : ls.size = nL) (hstack : st0 = As.reverse ++ .ref b :: rest) (hW : (rest.map fun v => v.category).sum ≤ 8) (hdg : decode cc pc = .ok (.invokevirtual index, 3)) (hcs : cells + mc ≤ R.cells ∧ slots + ms ≤ R.slots)
    (kx : KX p l e R s m args below meth c (cells + mc) (slots + ms) Q g L f xc pc ls rest)
    (kk : ∀ (r : Int64) (f2 : Nat → va_E) (H1 : Heap) (locs1 : List Loc), post r f2 → PP g L f2 H1 → va_S (AA L s.heap.size) s.heap H1 locs1 → W p l e R s m args below meth c H1 locs1 (cells + mc) (slots + ms) Q (F0 m (pc + 3) ls (.long r :: rest))) : W p l e R s m args below meth c H locs cells slots Q (F0 m pc ls st0) :=
  vx_calll (vx_runV S hM cw ⟨tp_blind, pg_recv hK hP hL hf hc, fun U hU hW => ⟨rfl, by rw [hU], by rw [hU]; exact hP, KK.warm hW hK, ZZ.step hZ hS hU hW⟩⟩ rfl hn hsize hstack (lv_room hW) hdg hcs) hS (AA_old (fun _ h => Or.inl h)) (AA_free (fun _ h => Or.inl h) (fun _ h => Or.inr h) hS) (AA_old (fun _ h => Or.inl h)) (fun E ce q9 u t H1 locs1 ht _ _ hB _ _ hS1 h1 h2 h3 => kx E ce q9 H1 locs1 hB.1 (by rw [← ht]; exact hB.2) hS1 h1 h2 h3) (fun r f2 t H1 locs1 ht _ hw hB _ _ hS1 => kk r f2 H1 locs1 hw (by rw [← ht]; exact hB) hS1)
theorem tv_V (S : CallFix p m c cc nL s args Ts own) {post : (Nat → va_E) → Prop} (hM : TV l g y ws fr lo mc ms L f H.size (.ref b :: As) post xc) (cw : CallW R s args own C index y bytes maxL ret ws ({ frames := fr, cells := mc, slots := ms, locals := lo }) mc ms n) (hK : KK g s) (hZ : ZZ L s.heap.size s) (hP : PP g L f H) (hS : va_S (AA L s.heap.size) s.heap H locs) (hL : b ∈ L) {ci : Nat} {fs : List Value} {T : u_T} {N : Nat} (hf : f b = .inr (ci, fs)) (hc : vwCl[ci]? = some (C, T, N))
    (hn : As.length = n) (hsize : ls.size = nL) (hstack : st0 = As.reverse ++ .ref b :: rest) (hW : (rest.map fun v => v.category).sum ≤ 8) (hdg : decode cc pc = .ok (.invokevirtual index, 3)) (hcs : cells + mc ≤ R.cells ∧ slots + ms ≤ R.slots)
    (kx : KX p l e R s m args below meth c (cells + mc) (slots + ms) Q g L f xc pc ls rest)
    (kk : ∀ (f2 : Nat → va_E) (H1 : Heap) (locs1 : List Loc), post f2 → PP g L f2 H1 → va_S (AA L s.heap.size) s.heap H1 locs1 → W p l e R s m args below meth c H1 locs1 (cells + mc) (slots + ms) Q (F0 m (pc + 3) ls (rest))) : W p l e R s m args below meth c H locs cells slots Q (F0 m pc ls st0) :=
  vx_callv (vx_runV S hM cw ⟨tp_blind, pg_recv hK hP hL hf hc, fun U hU hW => ⟨rfl, by rw [hU], by rw [hU]; exact hP, KK.warm hW hK, ZZ.step hZ hS hU hW⟩⟩ rfl hn hsize hstack (lv_room hW) hdg hcs) hS (AA_old (fun _ h => Or.inl h)) (AA_free (fun _ h => Or.inl h) (fun _ h => Or.inr h) hS) (AA_old (fun _ h => Or.inl h)) (fun E ce q9 u t H1 locs1 ht _ _ hB _ _ hS1 h1 h2 h3 => kx E ce q9 H1 locs1 hB.1 (by rw [← ht]; exact hB.2) hS1 h1 h2 h3) (fun f2 t H1 locs1 ht _ hw hB _ _ hS1 => kk f2 H1 locs1 hw (by rw [← ht]; exact hB) hS1)
theorem tr_V (S : CallFix p m c cc nL s args Ts own) {post : Nat → Prop} (hM : TR l g y ws fr lo mc ms L f H.size (.ref b :: As) post xc) (cw : CallW R s args own C index y bytes maxL ret ws ({ frames := fr, cells := mc, slots := ms, locals := lo }) mc ms n) (hK : KK g s) (hZ : ZZ L s.heap.size s) (hP : PP g L f H) (hS : va_S (AA L s.heap.size) s.heap H locs) (hL : b ∈ L) {ci : Nat} {fs : List Value} {T : u_T} {N : Nat} (hf : f b = .inr (ci, fs)) (hc : vwCl[ci]? = some (C, T, N))
    (hn : As.length = n) (hsize : ls.size = nL) (hstack : st0 = As.reverse ++ .ref b :: rest) (hW : (rest.map fun v => v.category).sum ≤ 8) (hdg : decode cc pc = .ok (.invokevirtual index, 3)) (hcs : cells + mc ≤ R.cells ∧ slots + ms ≤ R.slots)
    (kx : KX p l e R s m args below meth c (cells + mc) (slots + ms) Q g L f xc pc ls rest)
    (kk : ∀ (x : Nat) (H1 : Heap) (locs1 : List Loc), post x → PP g L f H1 → va_S (AA L s.heap.size) s.heap H1 locs1 → W p l e R s m args below meth c H1 locs1 (cells + mc) (slots + ms) Q (F0 m (pc + 3) ls (.ref x :: rest))) : W p l e R s m args below meth c H locs cells slots Q (F0 m pc ls st0) :=
  tx_callr (vx_runV S hM cw ⟨tp_blind, pg_recv hK hP hL hf hc, fun U hU hW => ⟨rfl, by rw [hU], by rw [hU]; exact hP, KK.warm hW hK, ZZ.step hZ hS hU hW⟩⟩ rfl hn hsize hstack (lv_room hW) hdg hcs) hS (AA_old (fun _ h => Or.inl h)) (AA_free (fun _ h => Or.inl h) (fun _ h => Or.inr h) hS) (AA_old (fun _ h => Or.inl h)) (fun E ce q9 u t H1 locs1 ht _ _ hB _ _ hS1 h1 h2 h3 => kx E ce q9 H1 locs1 hB.1 (by rw [← ht]; exact hB.2) hS1 h1 h2 h3) (fun x ra t H1 locs1 ht _ hw hB _ _ hS1 => by obtain ⟨rfl, hB⟩ := hB; exact kk _ H1 locs1 hw (by rw [← ht]; exact hB) hS1)
theorem tw_S (S : CallFix p m c cc nL s args Ts own) {post : Int32 → (Nat → va_E) → Prop} (hM : TW l g y ws fr lo mc ms L f H.size As post xc) (cw : CallB R s args own index y bytes maxL ret ws ({ frames := fr, cells := mc, slots := ms, locals := lo }) mc ms n ∧ (Cond.static y).before args s = true) (hK : KK g s) (hZ : ZZ L s.heap.size s) (hP : PP g L f H) (hS : va_S (AA L s.heap.size) s.heap H locs)
    (hn : As.length = n) (hsize : ls.size = nL) (hstack : st0 = As.reverse ++ rest) (hW : (rest.map fun v => v.category).sum ≤ 8) (hdg : decode cc pc = .ok (.invokestatic index, 3)) (hcs : cells + mc ≤ R.cells ∧ slots + ms ≤ R.slots)
    (kx : KX p l e R s m args below meth c (cells + mc) (slots + ms) Q g L f xc pc ls rest)
    (kk : ∀ (r : Int32) (f2 : Nat → va_E) (H1 : Heap) (locs1 : List Loc), post r f2 → PP g L f2 H1 → va_S (AA L s.heap.size) s.heap H1 locs1 → W p l e R s m args below meth c H1 locs1 (cells + mc) (slots + ms) Q (F0 m (pc + 3) ls (.int r :: rest))) : W p l e R s m args below meth c H locs cells slots Q (F0 m pc ls st0) :=
  vx_calli (vx_runS S hM cw ⟨tp_blind, fun U hU hW => ⟨rfl, by rw [hU], by rw [hU]; exact hP, KK.warm hW hK, ZZ.step hZ hS hU hW⟩⟩ rfl hn hsize hstack (lv_room hW) hdg hcs) hS (AA_old (fun _ h => Or.inl h)) (AA_free (fun _ h => Or.inl h) (fun _ h => Or.inr h) hS) (AA_old (fun _ h => Or.inl h)) (fun E ce q9 u t H1 locs1 ht _ _ hB _ _ hS1 h1 h2 h3 => kx E ce q9 H1 locs1 hB.1 (by rw [← ht]; exact hB.2) hS1 h1 h2 h3) (fun r f2 t H1 locs1 ht _ hw hB _ _ hS1 => kk r f2 H1 locs1 hw (by rw [← ht]; exact hB) hS1)
theorem tl_S (S : CallFix p m c cc nL s args Ts own) {post : Int64 → (Nat → va_E) → Prop} (hM : TL l g y ws fr lo mc ms L f H.size As post xc) (cw : CallB R s args own index y bytes maxL ret ws ({ frames := fr, cells := mc, slots := ms, locals := lo }) mc ms n ∧ (Cond.static y).before args s = true) (hK : KK g s) (hZ : ZZ L s.heap.size s) (hP : PP g L f H) (hS : va_S (AA L s.heap.size) s.heap H locs)
    (hn : As.length = n) (hsize : ls.size = nL) (hstack : st0 = As.reverse ++ rest) (hW : (rest.map fun v => v.category).sum ≤ 8) (hdg : decode cc pc = .ok (.invokestatic index, 3)) (hcs : cells + mc ≤ R.cells ∧ slots + ms ≤ R.slots)
    (kx : KX p l e R s m args below meth c (cells + mc) (slots + ms) Q g L f xc pc ls rest)
    (kk : ∀ (r : Int64) (f2 : Nat → va_E) (H1 : Heap) (locs1 : List Loc), post r f2 → PP g L f2 H1 → va_S (AA L s.heap.size) s.heap H1 locs1 → W p l e R s m args below meth c H1 locs1 (cells + mc) (slots + ms) Q (F0 m (pc + 3) ls (.long r :: rest))) : W p l e R s m args below meth c H locs cells slots Q (F0 m pc ls st0) :=
  vx_calll (vx_runS S hM cw ⟨tp_blind, fun U hU hW => ⟨rfl, by rw [hU], by rw [hU]; exact hP, KK.warm hW hK, ZZ.step hZ hS hU hW⟩⟩ rfl hn hsize hstack (lv_room hW) hdg hcs) hS (AA_old (fun _ h => Or.inl h)) (AA_free (fun _ h => Or.inl h) (fun _ h => Or.inr h) hS) (AA_old (fun _ h => Or.inl h)) (fun E ce q9 u t H1 locs1 ht _ _ hB _ _ hS1 h1 h2 h3 => kx E ce q9 H1 locs1 hB.1 (by rw [← ht]; exact hB.2) hS1 h1 h2 h3) (fun r f2 t H1 locs1 ht _ hw hB _ _ hS1 => kk r f2 H1 locs1 hw (by rw [← ht]; exact hB) hS1)
theorem tv_S (S : CallFix p m c cc nL s args Ts own) {post : (Nat → va_E) → Prop} (hM : TV l g y ws fr lo mc ms L f H.size As post xc) (cw : CallB R s args own index y bytes maxL ret ws ({ frames := fr, cells := mc, slots := ms, locals := lo }) mc ms n ∧ (Cond.static y).before args s = true) (hK : KK g s) (hZ : ZZ L s.heap.size s) (hP : PP g L f H) (hS : va_S (AA L s.heap.size) s.heap H locs)
    (hn : As.length = n) (hsize : ls.size = nL) (hstack : st0 = As.reverse ++ rest) (hW : (rest.map fun v => v.category).sum ≤ 8) (hdg : decode cc pc = .ok (.invokestatic index, 3)) (hcs : cells + mc ≤ R.cells ∧ slots + ms ≤ R.slots)
    (kx : KX p l e R s m args below meth c (cells + mc) (slots + ms) Q g L f xc pc ls rest)
    (kk : ∀ (f2 : Nat → va_E) (H1 : Heap) (locs1 : List Loc), post f2 → PP g L f2 H1 → va_S (AA L s.heap.size) s.heap H1 locs1 → W p l e R s m args below meth c H1 locs1 (cells + mc) (slots + ms) Q (F0 m (pc + 3) ls (rest))) : W p l e R s m args below meth c H locs cells slots Q (F0 m pc ls st0) :=
  vx_callv (vx_runS S hM cw ⟨tp_blind, fun U hU hW => ⟨rfl, by rw [hU], by rw [hU]; exact hP, KK.warm hW hK, ZZ.step hZ hS hU hW⟩⟩ rfl hn hsize hstack (lv_room hW) hdg hcs) hS (AA_old (fun _ h => Or.inl h)) (AA_free (fun _ h => Or.inl h) (fun _ h => Or.inr h) hS) (AA_old (fun _ h => Or.inl h)) (fun E ce q9 u t H1 locs1 ht _ _ hB _ _ hS1 h1 h2 h3 => kx E ce q9 H1 locs1 hB.1 (by rw [← ht]; exact hB.2) hS1 h1 h2 h3) (fun f2 t H1 locs1 ht _ hw hB _ _ hS1 => kk f2 H1 locs1 hw (by rw [← ht]; exact hB) hS1)
theorem tr_S (S : CallFix p m c cc nL s args Ts own) {post : Nat → Prop} (hM : TR l g y ws fr lo mc ms L f H.size As post xc) (cw : CallB R s args own index y bytes maxL ret ws ({ frames := fr, cells := mc, slots := ms, locals := lo }) mc ms n ∧ (Cond.static y).before args s = true) (hK : KK g s) (hZ : ZZ L s.heap.size s) (hP : PP g L f H) (hS : va_S (AA L s.heap.size) s.heap H locs)
    (hn : As.length = n) (hsize : ls.size = nL) (hstack : st0 = As.reverse ++ rest) (hW : (rest.map fun v => v.category).sum ≤ 8) (hdg : decode cc pc = .ok (.invokestatic index, 3)) (hcs : cells + mc ≤ R.cells ∧ slots + ms ≤ R.slots)
    (kx : KX p l e R s m args below meth c (cells + mc) (slots + ms) Q g L f xc pc ls rest)
    (kk : ∀ (x : Nat) (H1 : Heap) (locs1 : List Loc), post x → PP g L f H1 → va_S (AA L s.heap.size) s.heap H1 locs1 → W p l e R s m args below meth c H1 locs1 (cells + mc) (slots + ms) Q (F0 m (pc + 3) ls (.ref x :: rest))) : W p l e R s m args below meth c H locs cells slots Q (F0 m pc ls st0) :=
  tx_callr (vx_runS S hM cw ⟨tp_blind, fun U hU hW => ⟨rfl, by rw [hU], by rw [hU]; exact hP, KK.warm hW hK, ZZ.step hZ hS hU hW⟩⟩ rfl hn hsize hstack (lv_room hW) hdg hcs) hS (AA_old (fun _ h => Or.inl h)) (AA_free (fun _ h => Or.inl h) (fun _ h => Or.inr h) hS) (AA_old (fun _ h => Or.inl h)) (fun E ce q9 u t H1 locs1 ht _ _ hB _ _ hS1 h1 h2 h3 => kx E ce q9 H1 locs1 hB.1 (by rw [← ht]; exact hB.2) hS1 h1 h2 h3) (fun x ra t H1 locs1 ht _ hw hB _ _ hS1 => by obtain ⟨rfl, hB⟩ := hB; exact kk _ H1 locs1 hw (by rw [← ht]; exact hB) hS1)
end TC
