/-! ===== contracts with a long answer ===== -/
abbrev RK (l : Launch) (g : GG) (y : MethodName) (ws : List Cond) (fr lo : Nat) (L : List Nat) (f : Nat → va_E) (As : List Value) (post : Int64 → Prop) : Prop := Met l y ws ({ frames := fr, cells := 0, slots := 0, locals := lo }) (va_Pc As (rp g L f)) (vp_Sl post) 0 0 (fun _ => False)
abbrev RJ (l : Launch) (g : GG) (y : MethodName) (ws : List Cond) (fr lo : Nat) (L : List Nat) (f : Nat → va_E) (sz : Nat) (As : List Value) (post : Int64 → (Nat → va_E) → Prop) : Prop := Met l y ws ({ frames := fr, cells := 0, slots := 0, locals := lo }) (va_Pc As (wp_ g L f sz)) (va_Ql post (fun f2 t => PP g L f2 t.heap) (AA L sz)) 0 0 (AA L sz)
section PC
variable {p : Program} {l : Launch} {e : Env} {R : Room} {s : State} {m : MethodId} {args : Array Value} {below : List Frame} {meth : Method} {c : Code} {H : Heap} {locs : List Loc} {cells slots : Nat} {Q : State → Prop}
variable {cc : ByteArray} {pc : Nat} {ls : Array Slot} {rest st0 : List Value} {g : GG} {L : List Nat} {f : Nat → va_E} {b : Nat} {A : Nat → Prop} {H0 : Heap} {Ts ws : List Cond} {own C : String} {y : MethodName} {bytes : ByteArray} {maxL nL n index fr lo : Nat} {ret : Option FieldType} {As : List Value}
theorem rl_S (S : CallFix p m c cc nL s args Ts own) {post : Int64 → Prop} (hM : RK l g y ws fr lo L f As post) (cw : CallB R s args own index y bytes maxL ret ws ({ frames := fr, cells := 0, slots := 0, locals := lo }) 0 0 n ∧ (Cond.static y).before args s = true) (hK : KK g s) (hP : PP g L f H)
    (hn : As.length = n) (hsize : ls.size = nL) (hstack : st0 = As.reverse ++ rest) (hW : (rest.map fun v => v.category).sum ≤ 8) (hdg : decode cc pc = .ok (.invokestatic index, 3)) (hcs : cells ≤ R.cells ∧ slots ≤ R.slots)
    (kk : ∀ r : Int64, post r → W p l e R s m args below meth c H locs cells slots Q (F0 m (pc + 3) ls (.long r :: rest))) : W p l e R s m args below meth c H locs cells slots Q (F0 m pc ls st0) :=
  vp_callSl (W.runS S hM cw ⟨rp_blind, fun U hU hW => ⟨rfl, by rw [hU]; exact hP, KK.warm hW hK⟩⟩ rfl hn hsize hstack (lv_room hW) hdg hcs) kk
theorem rl_V (S : CallFix p m c cc nL s args Ts own) {post : Int64 → Prop} (hM : RK l g y ws fr lo L f (.ref b :: As) post) (cw : CallW R s args own C index y bytes maxL ret ws ({ frames := fr, cells := 0, slots := 0, locals := lo }) 0 0 n) (hK : KK g s) (hP : PP g L f H) (hL : b ∈ L) {ci : Nat} {fs : List Value} {T : u_T} {N : Nat} (hf : f b = .inr (ci, fs)) (hc : vwCl[ci]? = some (C, T, N))
    (hn : As.length = n) (hsize : ls.size = nL) (hstack : st0 = As.reverse ++ .ref b :: rest) (hW : (rest.map fun v => v.category).sum ≤ 8) (hdg : decode cc pc = .ok (.invokevirtual index, 3)) (hcs : cells ≤ R.cells ∧ slots ≤ R.slots)
    (kk : ∀ r : Int64, post r → W p l e R s m args below meth c H locs cells slots Q (F0 m (pc + 3) ls (.long r :: rest))) : W p l e R s m args below meth c H locs cells slots Q (F0 m pc ls st0) :=
  vp_callSl (W.runV S hM cw ⟨rp_blind, pg_recv hK hP hL hf hc, fun U hU hW => ⟨rfl, by rw [hU]; exact hP, KK.warm hW hK⟩⟩ rfl hn hsize hstack (lv_room hW) hdg hcs) kk
theorem rj_V (S : CallFix p m c cc nL s args Ts own) {post : Int64 → (Nat → va_E) → Prop} (hM : RJ l g y ws fr lo L f H.size (.ref b :: As) post) (cw : CallW R s args own C index y bytes maxL ret ws ({ frames := fr, cells := 0, slots := 0, locals := lo }) 0 0 n) (hK : KK g s) (hP : PP g L f H) (hA : ∀ a ∈ L, A a) (hA2 : ∀ q, H0.size ≤ q → A q) (hS : va_S A H0 H locs) (hL : b ∈ L) {ci : Nat} {fs : List Value} {T : u_T} {N : Nat} (hf : f b = .inr (ci, fs)) (hc : vwCl[ci]? = some (C, T, N))
    (hn : As.length = n) (hsize : ls.size = nL) (hstack : st0 = As.reverse ++ .ref b :: rest) (hW : (rest.map fun v => v.category).sum ≤ 8) (hdg : decode cc pc = .ok (.invokevirtual index, 3)) (hcs : cells ≤ R.cells ∧ slots ≤ R.slots)
    (kk : ∀ (r : Int64) (f2 : Nat → va_E) (H1 : Heap) (locs1 : List Loc), post r f2 → PP g L f2 H1 → va_S A H0 H1 locs1 → W p l e R s m args below meth c H1 locs1 cells slots Q (F0 m (pc + 3) ls (.long r :: rest))) : W p l e R s m args below meth c H locs cells slots Q (F0 m pc ls st0) :=
  va_calll (va_runV S hM cw ⟨wp_blind, pg_recv hK hP hL hf hc, fun U hU hW => ⟨rfl, by rw [hU], by rw [hU]; exact hP, KK.warm hW hK⟩⟩ rfl hn hsize hstack (lv_room hW) hdg hcs) hS (AA_old hA) (AA_free hA hA2 hS) (fun r f2 t H1 locs1 ht _ hw hB _ _ hS1 => kk r f2 H1 locs1 hw (by rw [← ht]; exact hB) hS1)
end PC
section ST
variable {l : Launch} {g : GG} {L : List Nat} {f : Nat → va_E} {y : MethodName} {ws ws' : List Cond} {fr lo : Nat} {As : List Value} {cc : ByteArray} {maxL sz : Nat}
theorem RK.start {post : Int64 → Prop} (hy : plainFor y = true) (hw : ws = Cond.code y cc maxL (some .long) :: ws') (hn : (lg_sl As).length ≤ maxL)
    (body : ∀ (p : Program) (e : Env) (s : State) (m : MethodId) (args : Array Value) (below : List Frame) (meth : Method) (c : Code) (Q : State → Prop) (ls : Array Slot), p.tables.exec = Jvm.exec → c.code = cc → c.maxLocals = maxL → (∀ w ∈ ws, w.before args s = true) → s.vm.findClass y.cls = some m.cls → PP g L f s.heap → KK g s → lv_has ls maxL (lv_args 0 As) →
      (∀ (v : Int64) (pc : Nat) (ls : Array Slot), post v → decode cc pc = .ok (.lreturn, 1) → W p l e ({ frames := fr, cells := 0, slots := 0, locals := lo } : Room) s m args below meth c s.heap [] 0 0 Q (F0 m pc ls [.long v])) →
      W p l e ({ frames := fr, cells := 0, slots := 0, locals := lo } : Room) s m args below meth c s.heap [] 0 0 Q (F0 m 0 ls [])) : RK l g y ws fr lo L f As post := by
  refine ofWF (cc := cc) (maxL := maxL) (ret := some .long) hy hw ?_
  intro p e s m args below meth c s₁ B hml hv
  obtain ⟨rfl, hP, hK⟩ := hv
  have hl := lv_entry As (n := maxL) hn
  rw [lg_entry_eq]
  have hlk := B.notSynchronized
  exact body p e s m _ below meth c _ _ B.exec B.bytes hml (atoms_spec (ws := ws) B.pre) (findClass_of_methodNamed B.named) hP hK hl (fun v pc ls hp hd => W.lret B.exec B.bytes B.returns (fun t ht hW => ⟨v, rfl, hp, ht⟩) (fun _ h => absurd h List.not_mem_nil) hd hlk)
theorem RJ.start {post : Int64 → (Nat → va_E) → Prop} (hy : plainFor y = true) (hw : ws = Cond.code y cc maxL (some .long) :: ws') (hn : (lg_sl As).length ≤ maxL)
    (body : ∀ (p : Program) (e : Env) (s : State) (m : MethodId) (args : Array Value) (below : List Frame) (meth : Method) (c : Code) (Q : State → Prop) (ls : Array Slot) (A : Nat → Prop), p.tables.exec = Jvm.exec → c.code = cc → c.maxLocals = maxL → (∀ w ∈ ws, w.before args s = true) → s.vm.findClass y.cls = some m.cls → (∀ a ∈ L, A a) → (∀ q, s.heap.size ≤ q → A q) → va_S A s.heap s.heap [] → PP g L f s.heap → KK g s → lv_has ls maxL (lv_args 0 As) →
      (∀ (v : Int64) (f2 : Nat → va_E) (H : Heap) (locs : List Loc) (pc : Nat) (ls : Array Slot), post v f2 → PP g L f2 H → va_S A s.heap H locs → decode cc pc = .ok (.lreturn, 1) → W p l e ({ frames := fr, cells := 0, slots := 0, locals := lo } : Room) s m args below meth c H locs 0 0 Q (F0 m pc ls [.long v])) →
      W p l e ({ frames := fr, cells := 0, slots := 0, locals := lo } : Room) s m args below meth c s.heap [] 0 0 Q (F0 m 0 ls [])) : RJ l g y ws fr lo L f sz As post := by
  refine ofWF (cc := cc) (maxL := maxL) (ret := some .long) hy hw ?_
  intro p e s m args below meth c s₁ B hml hv
  obtain ⟨rfl, hsz, hP, hK⟩ := hv
  subst hsz
  have hl := lv_entry As (n := maxL) hn
  rw [lg_entry_eq]
  have hlk := B.notSynchronized
  exact body p e s m _ below meth c _ _ (AA L s.heap.size) B.exec B.bytes hml (atoms_spec (ws := ws) B.pre) (findClass_of_methodNamed B.named) (fun _ h => Or.inl h) (fun _ h => Or.inr h) va_S.rf hP hK hl (fun v f2 H locs pc ls hp hP2 hS hd => W.lret B.exec B.bytes B.returns (fun t ht hW => ⟨⟨v, f2, rfl, hp, by dsimp only; rw [ht]; exact hP2⟩, hS.F ht⟩) hS.2.2 hd hlk)
end ST
section TS
variable {l : Launch} {g : GG} {L : List Nat} {f : Nat → va_E} {y : MethodName} {ws ws' : List Cond} {fr lo mc ms : Nat} {As : List Value} {cc : ByteArray} {maxL sz : Nat} {xc : String → Prop}
theorem TL.start {post : Int64 → (Nat → va_E) → Prop} (hst : l.stackTraces = false) (hy : plainName y.cls = true) (hw : ws = Cond.code y cc maxL (some .long) :: ws') (hn : (lg_sl As).length ≤ maxL) (hfr : 6 ≤ fr) (hlo : 90 ≤ lo)
    (body : ∀ (p : Program) (e : Env) (s : State) (m : MethodId) (args : Array Value) (below : List Frame) (meth : Method) (c : Code) (Q : State → Prop) (ls : Array Slot), p.tables.exec = Jvm.exec → c.code = cc → c.maxLocals = maxL → (∀ w ∈ ws, w.before args s = true) → s.vm.findClass y.cls = some m.cls → va_S (AA L s.heap.size) s.heap s.heap [] → PP g L f s.heap → KK g s → ZZ L s.heap.size s → lv_has ls maxL (lv_args 0 As) →
      (∀ (v : Int64) (f2 : Nat → va_E) (H : Heap) (locs : List Loc) (k n pc : Nat) (ls : Array Slot), post v f2 → PP g L f2 H → va_S (AA L s.heap.size) s.heap H locs → k ≤ mc → n ≤ ms → decode cc pc = .ok (.lreturn, 1) → W p l e ({ frames := fr, cells := mc, slots := ms, locals := lo } : Room) s m args below meth c H locs k n Q (F0 m pc ls [.long v])) →
      (∀ (X text : String) (k j ik is ic : Nat) (H : Heap) (locs : List Loc) (cells slots pc : Nat) (ls : Array Slot), xc X → PP g L f H → va_S (AA L s.heap.size) s.heap H locs → cells + 1 ≤ mc → slots + 6 ≤ ms → Bundle.fit X = true → nestW[k]? = some (.castable X X) → strW[j]? = some (y.cls, is, text) → (Cond.classLink y.cls ik X).before args s = true → (Cond.initialized X).before args s = true →
        (∀ w ∈ (vx_atS y.cls ic X xN).filter goodWord, w ∈ ws) → (∀ w ∈ (vx_atS y.cls ic X xN).filter (fun w => !goodWord w), w ∈ xB X) → (∀ w ∈ Cond.classLink y.cls ik X :: Cond.initialized X :: vx_atS y.cls ic X xN, vx_ot w = true) → ls.size = maxL → ThrowAt cc ik is ic pc →
        W p l e ({ frames := fr, cells := mc, slots := ms, locals := lo } : Room) s m args below meth c H locs cells slots Q (F0 m pc ls [])) →
      (∀ (E : String) (ce : Cell) (q9 : Addr) (H : Heap) (locs : List Loc) (cells slots pc : Nat) (ls : Array Slot) (rest : List Value), xc E → PP g L f H → va_S (AA L s.heap.size) s.heap H locs → H[q9]? = some ce → ce.vm = .none → s.vm.findClass E = some ce.cls → cells ≤ mc → slots ≤ ms → vx_W p l e ({ frames := fr, cells := mc, slots := ms, locals := lo } : Room) s m args below meth c H locs cells slots Q (F0 m pc ls rest) q9) →
      W p l e ({ frames := fr, cells := mc, slots := ms, locals := lo } : Room) s m args below meth c s.heap [] 0 0 Q (F0 m 0 ls [])) : TL l g y ws fr lo mc ms L f sz As post xc := by
  refine vx_ofW (cc := cc) (maxL := maxL) (ret := (some .long)) hy hw ?_
  intro p e s m args below meth c s₁ B hml hno hv
  obtain ⟨rfl, hsz, hP, hK, hZ⟩ := hv
  subst hsz
  have hl := lv_entry As (n := maxL) hn
  rw [lg_entry_eq]
  have hlk := B.notSynchronized
  have hts := atoms_spec (ws := ws) B.pre
  have hown := findClass_of_methodNamed B.named
  refine body p e s m _ below meth c _ _ B.exec B.bytes hml hts hown va_S.rf hP hK hZ hl ?_ ?_ ?_
  · exact fun v f2 H locs k n pc ls hp hP2 hS hk hn hd => W.widen hk hn (vx_ret (W.lret B.exec B.bytes B.returns (fun t ht hW => ⟨⟨v, f2, rfl, hp, by dsimp only; rw [ht]; exact hP2⟩, hS.F ht⟩) hS.2.2 hd hlk))
  · intro X text k j ik is ic H locs cells slots pc ls hxc hP2 hS hc hs hfit hk hj hkl hini hat1 hat2 hgood hsize hd
    obtain ⟨sa, hstr⟩ := hZ.2.2 _ (List.mem_of_getElem? hj)
    obtain ⟨d0, d3, d4, d6, d9⟩ := hd
    exact vx_throwS B.exec B.bytes hst hown hfit (by decide) hkl hini hstr (tx_hat hK hk (fun w hw => hts w (hat1 w hw)) hat2) hgood hZ.1 hZ.2.1 hS (hsize.trans hml.symm) d0 d3 d4 d6 d9 (fun x hx => (hno x hx).elim) (by show 2 + 3 < fr; omega) (by show 0 + (13 * (2 + 1) + 43) ≤ lo; omega) hc hs hlk
      (fun t _ h2 h3 => ⟨(), trivial, ⟨hxc, PP.kept hP2 (fun a ha => h3 a (hP2.lt ha))⟩, ⟨Nat.le_trans hS.1 h2, fun q q1 q2 => (h3 q (Nat.lt_of_lt_of_le q1 hS.1)).trans (hS.2.1 q q1 q2)⟩⟩) hS.2.2 hc hs
  · intro E ce q9 H locs cells slots pc ls rest hxc hP2 hS hcell hv hcl hk hn
    exact vx_out (fun x hx => (hno x hx).elim) hlk hcell hv hcl (fun t ht _ => ⟨(), trivial, ⟨hxc, by rw [ht]; exact hP2⟩, hS.F ht⟩) hS.2.2 hk hn
end TS
/-! ===== the digest ===== -/
def dW (d : Int64) (x : Int32) : Int64 := d * 31 + x.toInt64
def dgN (w : Nat → Int32) (d : Int64) : Nat → Int64
  | 0 => d
  | i + 1 => dW (dgN w d i) (w i)
def dgT (gl rn : Nat → Int32) (d : Int64) : Nat → Int64
  | 0 => d
  | i + 1 => dW (dW (dgT gl rn d i) (gl i)) (rn i)
def dgS (w : Nat → Nat → Int32) (m : Nat) (d : Int64) : Nat → Int64
  | 0 => d
  | i + 1 => dgN (w i) (dgS w m d i) m
def dgV (w u : Nat → Nat → Int32) (n : Nat) (d : Int64) : Nat → Int64
  | 0 => d
  | i + 1 => dgN (u i) (dgN (w i) (dgV w u n d i) 7) n
def digL (ct gl rn : Nat → Int32) (tl : Nat → Nat → Int32) (n : Nat) (ab wt : Nat → Nat → Int32) (nv : Nat) : Int64 := dgV ab wt n (dgS tl 4 (dgT gl rn (dgN ct 1459 7) 12) n) nv
theorem saS_saS (kd nu gl rn : Nat → Int32) (n d : Nat) (sa : Nat → Int32) : saS kd nu gl rn n d (saS kd nu gl rn n d sa) = saS kd nu gl rn n d sa := by
  funext j
  unfold saS mapN
  by_cases h : j < n
  · simp [h]
  · simp [h]
theorem sa_fix {kd nu gl rn : Nat → Int32} {n d : Nat} {sa SA sx : Nat → Int32} (h : sx = sa ∨ sx = SA) (e : SA = saS kd nu gl rn n d sa) : saS kd nu gl rn n d sx = SA := by
  rcases h with rfl | rfl
  · exact e.symm
  · rw [e, saS_saS]
theorem sa_or {kd nu gl rn : Nat → Int32} {n d : Nat} {sa SA sx : Nat → Int32} (h : sx = sa ∨ sx = SA) (e : SA = saS kd nu gl rn n d sa) (q : Prop) [Decidable q] : (if q then saS kd nu gl rn n d sx else sx) = sa ∨ (if q then saS kd nu gl rn n d sx else sx) = SA := by
  by_cases z : q
  · rw [if_pos z]; exact Or.inr (sa_fix h e)
  · rw [if_neg z]; exact h
