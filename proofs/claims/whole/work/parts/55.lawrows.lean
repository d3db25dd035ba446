/-! ===== the law's own methods: they catch what the class throws ===== -/
def NC (U : State) : Prop := va_Nc "java/lang/IllegalArgumentException" "java/lang/IndexOutOfBoundsException" U ∧ va_Nc "java/lang/IllegalStateException" "java/lang/IndexOutOfBoundsException" U ∧ va_Nc "java/lang/IndexOutOfBoundsException" "java/lang/IllegalArgumentException" U ∧ va_Nc "java/lang/IllegalStateException" "java/lang/IllegalArgumentException" U
theorem NC.moved {s U : State} (hW : s.vm.Alike U.vm) (h : NC s) : NC U := ⟨va_Nc.moved hW h.1, va_Nc.moved hW h.2.1, va_Nc.moved hW h.2.2.1, va_Nc.moved hW h.2.2.2⟩
abbrev lp (t : Nat) (g : GG) (L : List Nat) (f : Nat → va_E) (sz : Nat) : State → Prop := fun U => (tp g L f sz U ∧ DS t L sz U) ∧ NC U
theorem lp_blind {t : Nat} {g : GG} {L : List Nat} {f : Nat → va_E} {sz : Nat} {As : List Value} : FrameBlind (va_Pc As (lp t g L f sz)) := fun a U gg mk q => ⟨q.1, ⟨⟨q.2.1.1.1, q.2.1.1.2.1, KK.same (s := U) (U := U.calling gg mk a) rfl q.2.1.1.2.2.1, ZZ.same q.2.1.1.2.2.2⟩, DS.same q.2.1.2⟩, NC.moved (s := U) (U := U.calling gg mk a) (Vm.Alike.refl U.vm) q.2.2⟩
abbrev LW (l : Launch) (g : GG) (y : MethodName) (ws : List Cond) (fr lo mc ms : Nat) (t : Nat) (L : List Nat) (f : Nat → va_E) (sz : Nat) (As : List Value) (post : Int32 → List Nat → (Nat → va_E) → Prop) : Prop := Met l y ws ({ frames := fr, cells := mc, slots := ms, locals := lo }) (va_Pc As (lp t g L f sz)) (va_Qi (fun r (u : List Nat × (Nat → va_E)) => GR L u.1 sz ∧ post r u.1 u.2) (fun u T => PP g u.1 u.2 T.heap) (AA L sz)) mc ms (AA L sz)
theorem GR.rf {L : List Nat} {sz : Nat} (hN : L.Nodup) : GR L L sz := ⟨hN, fun _ h => h, fun _ h => Or.inl h⟩
theorem ofWH {l : Launch} {y : MethodName} {ws ws' : List Cond} {rm : Room} {Pc : Array Value → State → Prop} {Qc : Array Value → State → Outcome → State → Prop} {mc ms : Nat} {free : Addr → Prop} {cc : ByteArray} {maxL : Nat} {ret : Option FieldType} {hh : List (Nat × Nat × Nat × Nat)}
    (hy : plainName y.cls = true) (hw : ws = Cond.codeWith y cc maxL ret hh :: ws')
    (body : ∀ p e s m args below meth c s₁, BodyLoose p l y (headSpec ws rm) cc maxL ret e s m args below meth c s₁ → c.maxLocals = maxL → Pc args s →
      W p l e (headSpec ws rm).room s m args below meth c s.heap [] 0 0 (MQ below Qc args s mc ms free) (entryFrame m args maxL)) : Met l y ws rm Pc Qc mc ms free := by
  refine MetFree.of_bodyS (code := cc) (maxLocals := maxL) (ret := ret) hy ?_ ?_
  · intro args s m h hn
    obtain ⟨m9, meth, c, hn9, h1, h2, h3, h4, -, h5, h6, -⟩ := Cond.codeWith_spec (atoms_spec (ws := ws) h _ (by rw [hw]; exact List.mem_cons_self))
    cases hn.symm.trans hn9
    exact ⟨meth, c, h1, h2, h3, h4, h5, h6⟩
  · intro p e s m args below meth c s₁ B hml hP _
    have hh0 : s₁.heap = s.heap := by rw [B.state]; rfl
    obtain ⟨t, a1, o, b1, b2, b3⟩ := body p e s m args below meth c s₁ B hml hP s₁ hh0 (Stand.of_body B)
    exact ⟨t, o, a1, b1, b2, ⟨b3.1, b3.2⟩⟩
theorem LW.start {l : Launch} {g : GG} {t : Nat} {L : List Nat} {f : Nat → va_E} {y : MethodName} {ws ws' : List Cond} {fr lo mc ms : Nat} {As : List Value} {cc : ByteArray} {maxL sz : Nat} {hh : List (Nat × Nat × Nat × Nat)} {post : Int32 → List Nat → (Nat → va_E) → Prop} (hy : plainName y.cls = true) (hw : ws = Cond.codeWith y cc maxL (some .int) hh :: ws') (hn : (lg_sl As).length ≤ maxL)
    (body : ∀ (p : Program) (e : Env) (s : State) (m : MethodId) (args : Array Value) (below : List Frame) (meth : Method) (c : Code) (Q : State → Prop) (ls : Array Slot), p.tables.exec = Jvm.exec → c.code = cc → c.maxLocals = maxL → (∀ w ∈ ws, w.before args s = true) → s.vm.findClass y.cls = some m.cls → c.exceptionTable.toList = tableOf hh → va_S (AA L s.heap.size) s.heap s.heap [] → PP g L f s.heap → KK g s → ZZ L s.heap.size s → DS t L s.heap.size s → NC s → lv_has ls maxL (lv_args 0 As) →
      (∀ (v : Int32) (L2 : List Nat) (f2 : Nat → va_E) (H : Heap) (locs : List Loc) (k n pc : Nat) (ls : Array Slot), GR L L2 s.heap.size → post v L2 f2 → PP g L2 f2 H → va_S (AA L s.heap.size) s.heap H locs → k ≤ mc → n ≤ ms → decode cc pc = .ok (.ireturn, 1) → W p l e ({ frames := fr, cells := mc, slots := ms, locals := lo } : Room) s m args below meth c H locs k n Q (F0 m pc ls [.int v])) →
      W p l e ({ frames := fr, cells := mc, slots := ms, locals := lo } : Room) s m args below meth c s.heap [] 0 0 Q (F0 m 0 ls [])) : LW l g y ws fr lo mc ms t L f sz As post := by
  refine ofWH (cc := cc) (maxL := maxL) (ret := some .int) (hh := hh) hy hw ?_
  intro p e s m args below meth c s₁ B hml hv
  obtain ⟨rfl, ⟨⟨hsz, hP, hK, hZ⟩, hD⟩, hNC⟩ := hv
  subst hsz
  have hl := lv_entry As (n := maxL) hn
  rw [lg_entry_eq]
  have hlk := B.notSynchronized
  have hts := atoms_spec (ws := ws) B.pre
  have hown := findClass_of_methodNamed B.named
  exact body p e s m _ below meth c _ _ B.exec B.bytes hml hts hown (vx_table (x := y) B (hts _ (by rw [hw]; exact List.mem_cons_self))) va_S.rf hP hK hZ hD hNC hl (fun v L2 f2 H locs k n pc ls hG hp hP2 hS hk hn hd => W.widen hk hn (W.zret (ty := .int) B.exec B.bytes B.returns rfl (fun T ht hW => ⟨⟨v, (L2, f2), rfl, ⟨hG, hp⟩, by dsimp only; rw [ht]; exact hP2⟩, hS.F ht⟩) hS.2.2 hd hlk))
theorem arrJ_congr (c : ClassId) {n : Nat} {h h2 : Nat → Int64} (e : ∀ j, j < n → h j = h2 j) : vp_cell c (n, .inr (.inl h)) = vp_cell c (n, .inr (.inl h2)) := by
  have q : (fun j : Fin n => Value.long (h j.val)) = (fun j : Fin n => Value.long (h2 j.val)) := funext fun j => by rw [e j.val j.isLt]
  show arrV c n (fun j => .long (h j)) = arrV c n (fun j => .long (h2 j))
  unfold arrV
  rw [q]
section LWR
variable {p : Program} {l : Launch} {e : Env} {R : Room} {s : State} {m : MethodId} {args : Array Value} {below : List Frame} {meth : Method} {c : Code} {H : Heap} {locs : List Loc} {cells slots : Nat} {Q : State → Prop}
variable {cc : ByteArray} {pc : Nat} {ls : Array Slot} {rest st0 : List Value} {g : GG} {L L0 : List Nat} {f : Nat → va_E} {a b t : Nat} {A : Nat → Prop} {H0 : Heap} {Ts ws : List Cond} {own C : String} {y : MethodName} {bytes : ByteArray} {maxL nL n index fr lo mc ms : Nat} {ret : Option FieldType} {As : List Value} {hh : List (Nat × Nat × Nat × Nat)}
theorem lw_S (S : CallFix p m c cc nL s args Ts own) {post : Int32 → List Nat → (Nat → va_E) → Prop} (hM : LW l g y ws fr lo mc ms t L f H.size As post) (cw : vx_CSW R s args own index y bytes maxL ret hh ws ({ frames := fr, cells := mc, slots := ms, locals := lo }) mc ms n) (hK : KK g s) (hZ : ZZ L0 s.heap.size s) (hDS : DS t L0 s.heap.size s) (hNC : NC s) (hP : PP g L f H) (hA : ∀ a ∈ L, AA L0 s.heap.size a) (hS : va_S (AA L0 s.heap.size) s.heap H locs)
    (hn : As.length = n) (hsize : ls.size = nL) (hstack : st0 = As.reverse ++ rest) (hW : (rest.map fun v => v.category).sum ≤ 8) (hdg : decode cc pc = .ok (.invokestatic index, 3)) (hcs : cells + mc ≤ R.cells ∧ slots + ms ≤ R.slots)
    (kk : ∀ (r : Int32) (L2 : List Nat) (f2 : Nat → va_E) (H1 : Heap) (locs1 : List Loc), GR L L2 H.size → post r L2 f2 → PP g L2 f2 H1 → va_S (AA L0 s.heap.size) s.heap H1 locs1 → (∀ a ∈ L2, AA L0 s.heap.size a) → W p l e R s m args below meth c H1 locs1 (cells + mc) (slots + ms) Q (F0 m (pc + 3) ls (.int r :: rest))) : W p l e R s m args below meth c H locs cells slots Q (F0 m pc ls st0) :=
  va_calli (vx_runSW S hM cw ⟨lp_blind, fun U hU hW => ⟨rfl, ⟨⟨by rw [hU], by rw [hU]; exact hP, KK.warm hW hK, ZZ.step2 hZ hS hU hW hA⟩, DS.step hDS hS hU hW hA⟩, hNC.moved hW.alike⟩⟩ rfl hn hsize hstack (lv_room hW) hdg hcs) hS (AA_old hA) (AA_free hA (fun _ h => Or.inr h) hS) (fun r u T H1 locs1 ht _ hw hB _ _ hS1 => kk r u.1 u.2 H1 locs1 hw.1 hw.2 (by rw [← ht]; exact hB) hS1 (fun a ha => AA_free hA (fun _ h => Or.inr h) hS a (hw.1.2.2 a ha)))
theorem tl_V0 (S : CallFix p m c cc nL s args Ts own) {post : Int64 → (Nat → va_E) → Prop} (hM : TL l g y ws fr lo mc ms L f H.size (.ref b :: As) post (fun _ => False)) (cw : CallW R s args own C index y bytes maxL ret ws ({ frames := fr, cells := mc, slots := ms, locals := lo }) mc ms n) (hK : KK g s) (hZ : ZZ L0 s.heap.size s) (hP : PP g L f H) (hA : ∀ a ∈ L, AA L0 s.heap.size a) (hS : va_S (AA L0 s.heap.size) s.heap H locs) (hL : b ∈ L) {ci : Nat} {fs : List Value} {T : u_T} {N : Nat} (hf : f b = .inr (ci, fs)) (hc : vwCl[ci]? = some (C, T, N))
    (hn : As.length = n) (hsize : ls.size = nL) (hstack : st0 = As.reverse ++ .ref b :: rest) (hW : (rest.map fun v => v.category).sum ≤ 8) (hdg : decode cc pc = .ok (.invokevirtual index, 3)) (hcs : cells + mc ≤ R.cells ∧ slots + ms ≤ R.slots)
    (kk : ∀ (r : Int64) (f2 : Nat → va_E) (H1 : Heap) (locs1 : List Loc), post r f2 → PP g L f2 H1 → va_S (AA L0 s.heap.size) s.heap H1 locs1 → W p l e R s m args below meth c H1 locs1 (cells + mc) (slots + ms) Q (F0 m (pc + 3) ls (.long r :: rest))) : W p l e R s m args below meth c H locs cells slots Q (F0 m pc ls st0) :=
  vx_calll (vx_runV S hM cw ⟨tp_blind, pg_recv hK hP hL hf hc, fun U hU hW => ⟨rfl, by rw [hU], by rw [hU]; exact hP, KK.warm hW hK, ZZ.step2 hZ hS hU hW hA⟩⟩ rfl hn hsize hstack (lv_room hW) hdg hcs) hS (AA_old hA) (AA_free hA (fun _ h => Or.inr h) hS) (AA_old hA) (fun E ce q9 u t H1 locs1 ht _ _ hB _ _ hS1 h1 h2 h3 => hB.1.elim) (fun r u T H1 locs1 ht _ hw hB _ _ hS1 => kk r u H1 locs1 hw (by rw [← ht]; exact hB) hS1)
theorem rd_V {d0 : Drawn} (hd0 : s.drawn.sameBut d0 lw_cs) (S : CallFix p m c cc nL (s.setDrawn d0) args Ts own) {post : UInt64 → (Nat → va_E) → Prop} (hM : RD l g y ws fr lo L f H.size (.ref b :: As) post) (cw : CallW R (s.setDrawn d0) args own C index y bytes maxL ret ws ({ frames := fr, cells := 0, slots := 0, locals := lo }) 0 0 n) (hK : KK g (s.setDrawn d0)) (hP : PP g L f H) (hA : ∀ a ∈ L, A a) (hA2 : ∀ q, H0.size ≤ q → A q) (hS : va_S A H0 H locs) (hL : b ∈ L) {ci : Nat} {fs : List Value} {T : u_T} {N : Nat} (hf : f b = .inr (ci, fs)) (hc : vwCl[ci]? = some (C, T, N))
    (hn : As.length = n) (hsize : ls.size = nL) (hstack : st0 = As.reverse ++ .ref b :: rest) (hW : (rest.map fun v => v.category).sum ≤ 8) (hdg : decode cc pc = .ok (.invokevirtual index, 3)) (hcs : cells ≤ R.cells ∧ slots ≤ R.slots)
    (kk : ∀ (r : UInt64) (f2 : Nat → va_E) (H1 : Heap) (locs1 : List Loc) (d1 : Drawn), s.drawn.sameBut d1 lw_cs → post r f2 → PP g L f2 H1 → va_S A H0 H1 locs1 → W p l e R (s.setDrawn d1) m args below meth c H1 locs1 cells slots Q (F0 m (pc + 3) ls (.double r :: rest))) : W p l e R (s.setDrawn d0) m args below meth c H locs cells slots Q (F0 m pc ls st0) :=
  va_calldD hd0 (va_runV_D S hM cw ⟨wp_blind, pg_recv hK hP hL hf hc, fun U hU hW => ⟨rfl, by rw [hU], by rw [hU]; exact hP, KK.warm hW hK⟩⟩ rfl hn hsize hstack (lv_room hW) hdg hcs) hS (AA_old hA) (AA_free hA hA2 hS) (fun r f2 t H1 locs1 ht _ hw hB _ _ hS1 d1 hd1 => kk r f2 H1 locs1 d1 hd1 hw (by rw [← ht]; exact hB) hS1)
theorem pj_ast (hx : p.tables.exec = Jvm.exec) (hb : c.code = cc) (hK : KK g s) (hP : PP g L f H) (hN : L.Nodup) (hA : ∀ a ∈ L, A a) (hS : va_S A H0 H locs) (hL : a ∈ L) {h : Nat → Int64} (hf : f a = eJ g 1 h) {x : Int64} (hdg : decode cc pc = .ok (.lastore, 1))
    (kk : ∀ (H1 : Heap) (locs1 : List Loc), PP g L (va_up f a (eJ g 1 (fun _ => x))) H1 → va_S A H0 H1 locs1 → W p l e R s m args below meth c H1 locs1 cells slots Q (F0 m (pc + 1) ls rest)) : W p l e R s m args below meth c H locs cells slots Q (F0 m pc ls (.long x :: .int 0 :: .ref a :: rest)) := by
  obtain ⟨q0, h0⟩ := va_pl_get (X := []) (f := f) hL
  have h1 := h0
  rw [hf] at h1
  refine va_last hx hb hK.1 hP (DD_of hN hA) hS q0 4 h1 rfl (i := 0) (fun z => z.elim (by decide) (by decide)) hdg (fun H1 locs1 hP1 _ hS1 => kk H1 locs1 ?_ hS1)
  have hP2 := PP.set hN hL h0 hP1
  refine PP.of (fun b hb => ?_)
  have h3 := hP2.at hb
  by_cases q : b = a
  · subst q
    rw [va_up_self] at h3 ⊢
    show H1[b]? = some (vp_cell (gJ g) (1, .inr (.inl (fun _ => x))))
    rw [← arrJ_congr (gJ g) (h := vp_updL h (0 : Int32).toNatClampNeg x) (fun j hj => if_pos (show j = (0 : Int32).toNatClampNeg from by show j = 0; omega))]
    exact h3
  · rw [va_up_ne _ _ q] at h3 ⊢
    exact h3
theorem pj_ald (hx : p.tables.exec = Jvm.exec) (hb : c.code = cc) (hK : KK g s) (hP : PP g L f H) (hL : a ∈ L) {h : Nat → Int64} (hf : f a = eJ g 1 h) (hdg : decode cc pc = .ok (.laload, 1))
    (kk : W p l e R s m args below meth c H locs cells slots Q (F0 m (pc + 1) ls (.long (h 0) :: rest))) : W p l e R s m args below meth c H locs cells slots Q (F0 m pc ls (.int 0 :: .ref a :: rest)) := by
  obtain ⟨q0, h0⟩ := va_pl_get (X := []) (f := f) hL
  rw [hf] at h0
  exact va_lald hx hb hK.1 hP q0 4 h0 rfl (i := 0) (fun z => z.elim (by decide) (by decide)) hdg kk
/-- a number of the script: five instructions -/
theorem sc_at (hx : p.tables.exec = Jvm.exec) (hb : c.code = cc) {nS : Nat} {xs : Nat → Int32} (hX : va_X b nS xs s H0) (hbl : b < H0.size) (hbA : ¬ A b) (hS : va_S A H0 H locs) {i j : Nat} {k : Int} (hk : Int32.ofInt k = nI j) (hj : i + j < nS) (hnS : nS ≤ 2048) (h0 : ls[0]? = some (.val (.ref b))) (h4 : ls[4]? = some (.val (.int (nI i))))
    (d1 : decode cc pc = .ok (.aload_n 0, 1)) (d2 : decode cc (pc + 1) = .ok (.iload 4, 2)) (d3 : decode cc (pc + 3) = .ok (.iconst k, 1)) (d4 : decode cc (pc + 4) = .ok (.iadd, 1)) (d5 : decode cc (pc + 5) = .ok (.iaload, 1))
    (kk : W p l e R s m args below meth c H locs cells slots Q (F0 m (pc + 6) ls (.int (xs (i + j)) :: rest))) : W p l e R s m args below meth c H locs cells slots Q (F0 m pc ls rest) := by
  refine lv_aload_n hx hb d1 rfl h0 ?_
  refine lv_iload hx hb d2 h4 ?_
  refine lv_iconst (v := nI j) hx hb d3 hk ?_
  refine lv_iadd hx hb d4 ?_
  rw [nI_add]
  have hin := pn_in (i := nI (i + j)) rfl hj (Nat.lt_of_le_of_lt hnS (by decide))
  refine va_sld hx hb hX hbl hbA hS hin.1 d5 ?_
  rw [hin.2]
  exact kk
end LWR
