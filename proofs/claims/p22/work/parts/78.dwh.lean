/-! ===== methods with a table of their own ===== -/
theorem ofWH {l : Launch} {y : MethodName} {ws ws' : List Cond} {rm : Room} {Pc : Array Value → State → Prop} {Qc : Array Value → State → Outcome → State → Prop} {mc ms : Nat} {free : Addr → Prop} {cc : ByteArray} {maxL : Nat} {ret : Option FieldType} {hh : List (Nat × Nat × Nat × Nat)}
    (hy : plainName y.cls = true) (hw : ws = Cond.codeWith y cc maxL ret hh :: ws')
    (body : ∀ p e s m args below meth c s₁, BodyLoose p l y (headSpec ws rm) cc maxL ret e s m args below meth c s₁ → c.maxLocals = maxL → Pc args s →
      W p l e (headSpec ws rm).room s m args below meth c s.heap [] 0 0 (MQ below Qc args s mc ms free) (entryFrame m args maxL)) : Met l y ws rm Pc Qc mc ms free := by
  refine MetFree.of_bodyS (code := cc) (maxLocals := maxL) (ret := ret) hy ?_ ?_
  · intro args s m h hn
    obtain ⟨m9, meth, c, hn9, h1, h2, h3, h4, -, h5, h6, -⟩ := Cond.codeWith_spec (atoms_spec (ws := ws) h _ (by rw [hw]; exact List.mem_cons_self))
    cases hn.symm.trans hn9
    exact ⟨meth, c, h1, h2, h3, h4, h5, h6⟩
  · intro p e s m args below meth c s₁ B hml hP _
    have hh0 : s₁.heap = s.heap := by rw [B.state]; rfl
    obtain ⟨t, a1, o, b1, b2, b3⟩ := body p e s m args below meth c s₁ B hml hP s₁ hh0 (Stand.of_body B)
    exact ⟨t, o, a1, b1, b2, ⟨b3.1, b3.2⟩⟩
section DWH
variable {p : Program} {l : Launch} {e : Env} {R : Room} {s : State} {m : MethodId} {args : Array Value} {below : List Frame} {meth : Method} {c : Code} {H : Heap} {locs : List Loc} {cells slots : Nat} {Q : State → Prop}
variable {cc : ByteArray} {pc : Nat} {ls : Array Slot} {rest st0 : List Value} {g : GG} {L L0 Lw : List Nat} {f fw : Nat → va_E} {t lo bb : Nat} {b : SmA} {oc os : OB} {Ts ws : List Cond} {own C : String} {y : MethodName} {bytes : ByteArray} {maxL nL n index fr lc mc ms M : Nat} {ret : Option FieldType} {As : List Value}
theorem dw_SH {hh : List (Nat × Nat × Nat × Nat)} (S : CallFix p m c cc nL s args Ts own) (hK : KK g s) (hZ : ZZ L0 s.heap.size s) (hDS : DS t L0 s.heap.size s) (hW : WD g t lo b oc oc Lw fw (AA L0 s.heap.size) s.heap H locs) {post : Int32 → OB → Prop}
    (hM : ∀ (a : LgA) (Lc : List Nat) (fc : Nat → va_E) (Ls : List Nat) (fs : Nat → va_E), a.lo = lo → SyO a g t Lc fc oc → SimO b g Ls fs oc → Lc.Nodup → Ls.Nodup → (∀ x ∈ Lc, x ∉ Ls) → DW l g y ws fr lc mc ms t lo Lc fc Ls fs H.size (.ref lo :: .ref b.sm :: As) post)
    (cw : vx_CSW R s args own index y bytes maxL ret hh ws ({ frames := fr, cells := mc, slots := ms, locals := lc }) mc ms n)
    (hn : As.length + 2 = n) (hsize : ls.size = nL) (hstack : st0 = As.reverse ++ .ref b.sm :: .ref lo :: rest) (hWr : (rest.map fun v => v.category).sum ≤ 8) (hdg : decode cc pc = .ok (.invokestatic index, 3)) (hcs : cells + mc ≤ R.cells ∧ slots + ms ≤ R.slots)
    (kk : ∀ (r : Int32) (o2 : OB) (b2 : SmA) (H1 : Heap) (locs1 : List Loc), b2.sm = b.sm → post r o2 → WD g t lo b2 o2 o2 Lw fw (AA L0 s.heap.size) s.heap H1 locs1 → W p l e R s m args below meth c H1 locs1 (cells + mc) (slots + ms) Q (F0 m (pc + 3) ls (.int r :: rest))) : W p l e R s m args below meth c H locs cells slots Q (F0 m pc ls st0) := by
  obtain ⟨a, Lc, fc, Ls, fs, hlo, hY, hMs, hNc, hNs, hNw, dcs, dcw, dsw, hPc, hPs, hPw, hAc, hAs, hAw, hS⟩ := hW
  refine va_calli (vx_runSW S (hM a Lc fc Ls fs hlo hY hMs hNc hNs dcs) cw ⟨dq_blind, fun U hU hW => ⟨rfl, ⟨by rw [hU], by rw [hU]; exact hPc, by rw [hU]; exact hPs⟩, KK.warm hW hK, ZZ.step2 hZ hS hU hW (al_app hAc hAs), DS.step hDS hS hU hW (al_app hAc hAs)⟩⟩ rfl (by simpa using hn) hsize (by rw [hstack]; simp) (lv_room hWr) hdg hcs) hS (AA_old (al_app hAc hAs)) (AA_free (al_app hAc hAs) (fun _ h => Or.inr h) hS) (fun r u T H1 locs1 ht _ hw hB _ hk hS1 => ?_)
  obtain ⟨h1, h2⟩ := hB
  exact kk r u.1 u.2 H1 locs1 h1 hw (wd_back (by rw [← ht]; exact h2) hAc hAs hAw hNw dcw dsw hPw (Kp.of hk) hS hS1)
theorem DW.startH {hh : List (Nat × Nat × Nat × Nat)} {ws' : List Cond} {cc : ByteArray} {maxL sz : Nat} {Lc Ls : List Nat} {fc fs : Nat → va_E} {ret : FieldType} {post : Int32 → OB → Prop} {a : LgA} (hy : plainName y.cls = true) (hw : ws = Cond.codeWith y cc maxL (some ret) hh :: ws') (hn : (lg_sl (.ref lo :: .ref b.sm :: As)).length ≤ maxL)
    (hlo : a.lo = lo) (hY : SyO a g t Lc fc oc) (hMs : SimO b g Ls fs oc) (hNc : Lc.Nodup) (hNs : Ls.Nodup) (dcs : ∀ x ∈ Lc, x ∉ Ls)
    (body : ∀ (p : Program) (e : Env) (s : State) (m : MethodId) (args : Array Value) (below : List Frame) (meth : Method) (c : Code) (Q : State → Prop) (ls : Array Slot), p.tables.exec = Jvm.exec → c.code = cc → c.maxLocals = maxL → (∀ w ∈ ws, w.before args s = true) → s.vm.findClass y.cls = some m.cls → c.exceptionTable.toList = tableOf hh → KK g s → ZZ (Lc ++ Ls) s.heap.size s → DS t (Lc ++ Ls) s.heap.size s → WD g t lo b oc oc [] (fun _ => eO 0 []) (AA (Lc ++ Ls) s.heap.size) s.heap s.heap [] → lv_has ls maxL (lv_args 0 (.ref lo :: .ref b.sm :: As)) →
      (∀ (v : Int32) (o2 : OB) (b2 : SmA) (Lw : List Nat) (fw : Nat → va_E) (H : Heap) (locs : List Loc) (k n pc : Nat) (ls : Array Slot), b2.sm = b.sm → post v o2 → WD g t lo b2 o2 o2 Lw fw (AA (Lc ++ Ls) s.heap.size) s.heap H locs → narrow ret (.int v) = .int v → k ≤ mc → n ≤ ms → decode cc pc = .ok (.ireturn, 1) → W p l e ({ frames := fr, cells := mc, slots := ms, locals := lc } : Room) s m args below meth c H locs k n Q (F0 m pc ls [.int v])) →
      W p l e ({ frames := fr, cells := mc, slots := ms, locals := lc } : Room) s m args below meth c s.heap [] 0 0 Q (F0 m 0 ls [])) : DW l g y ws fr lc mc ms t lo Lc fc Ls fs sz (.ref lo :: .ref b.sm :: As) post := by
  refine ofWH (cc := cc) (maxL := maxL) (ret := some ret) (hh := hh) hy hw ?_
  intro p e s m args below meth c s₁ B hml hv
  obtain ⟨rfl, ⟨hsz, hPc, hPs⟩, hK, hZ, hD⟩ := hv
  subst hsz
  have hl := lv_entry (.ref lo :: .ref b.sm :: As) (n := maxL) hn
  rw [lg_entry_eq]
  have hlk := B.notSynchronized
  have hts := atoms_spec (ws := ws) B.pre
  exact body p e s m _ below meth c _ _ B.exec B.bytes hml hts (findClass_of_methodNamed B.named) (vx_table (x := y) B (hts _ (by rw [hw]; exact List.mem_cons_self))) hK hZ hD ⟨a, Lc, fc, Ls, fs, hlo, hY, hMs, hNc, hNs, List.nodup_nil, dcs, fun _ _ => List.not_mem_nil, fun _ _ => List.not_mem_nil, hPc, hPs, PP.of (fun b hb => absurd hb List.not_mem_nil), fun _ h => Or.inl (List.mem_append.mpr (Or.inl h)), fun _ h => Or.inl (List.mem_append.mpr (Or.inr h)), fun _ h => absurd h List.not_mem_nil, va_S.rf⟩ hl (fun v o2 b2 Lw fw H locs k n pc ls hb2 hp hW hnr hk hn hd => W.widen hk hn (W.zret (ty := ret) B.exec B.bytes B.returns hnr (fun T ht hW2 => ⟨⟨v, (o2, b2), rfl, hp, hb2, by dsimp only; rw [ht]; exact hW.P⟩, hW.S.F ht⟩) hW.S.2.2 hd hlk))
end DWH
/-! ===== what can be told keeps within bounds ===== -/
theorem ok_glass {M : Nat} {o : OB} (h : OkO M o) {j k : Nat} (hk : k < 61) : OkO M ((o.d, o.n, o.nv, upd o.gl j (nI k), o.rn, o.kd, o.nu, o.vs) : OB) :=
  ⟨h.hn, h.hnv, h.hd, h.hrn, h.hnu, h.hV, fun i hi => by
    show ∃ m : Nat, m ≤ 60 ∧ upd o.gl j (nI k) i = nI m
    by_cases e : i = j
    · rw [e, pk_us]; exact ⟨k, by omega, rfl⟩
    · rw [pk_un e]; exact h.hgl i hi, h.hW⟩
theorem ok_rain {M : Nat} {o : OB} (h : OkO M o) {j : Nat} {v : Bool} : OkO M ((o.d, o.n, o.nv, o.gl, upd o.rn j (b2i v), o.kd, o.nu, o.vs) : OB) :=
  ⟨h.hn, h.hnv, h.hd, fun i hi => by
    show ∃ b, upd o.rn j (b2i v) i = b2i b
    by_cases e : i = j
    · rw [e, pk_us]; exact ⟨v, rfl⟩
    · rw [pk_un e]; exact h.hrn i hi, h.hnu, h.hV, h.hgl, h.hW⟩
theorem ok_sign {M : Nat} {o : OB} (h : OkO M o) (h8 : o.n < 8) {x : Int32} {j : Nat} (hj : j < 61) : OkO M ((o.d, o.n + 1, o.nv, o.gl, o.rn, upd o.kd o.n x, upd o.nu o.n (nI j), o.vs) : OB) :=
  ⟨h8, h.hnv, h.hd, h.hrn, fun i hi => by
    show ∃ m : Nat, m ≤ 60 ∧ upd o.nu o.n (nI j) i = nI m
    have hi : i < o.n + 1 := hi
    by_cases e : i = o.n
    · rw [e, pk_us]; exact ⟨j, by omega, rfl⟩
    · rw [pk_un e]; exact h.hnu i (by omega), h.hV, h.hgl, h.hW⟩
theorem ok_join {M : Nat} {o : OB} (h : OkO M o) (h6 : o.nv < 6) : OkO M ((o.d, o.n, o.nv + 1, o.gl, o.rn, o.kd, o.nu, o.vs) : OB) :=
  ⟨h.hn, h6, h.hd, h.hrn, h.hnu, h.hV, h.hgl, fun v h1 h2 => h.hW v (by have h1 : o.nv + 1 ≤ v := h1; omega) h2⟩
theorem ok_weigh {M : Nat} {o : OB} (h : OkO M o) {u j k : Nat} (hu : u < o.nv) (hk : k < 101) : OkO M ((o.d, o.n, o.nv, o.gl, o.rn, o.kd, o.nu, fun z => if z = u then setW (o.vs u) (upd (o.vs u).2.2.2.2 j (nI k)) else o.vs z) : OB) :=
  ⟨h.hn, h.hnv, h.hd, h.hrn, h.hnu, fun v hv => by
    show OkV M v (if v = u then setW (o.vs u) (upd (o.vs u).2.2.2.2 j (nI k)) else o.vs v)
    by_cases e : v = u
    · rw [if_pos e, e]
      obtain ⟨h1, p, c, r, a1, a2, a3, e1, e2, e3, e4⟩ := h.hV u (by have := h.hnv; omega)
      refine ⟨h1, p, c, r, a1, a2, a3, e1, e2, e3, fun i hi => ?_⟩
      show ∃ w : Nat, w ≤ 100 ∧ upd (o.vs u).2.2.2.2 j (nI k) i = nI w
      by_cases e9 : i = j
      · rw [e9, pk_us]; exact ⟨k, by omega, rfl⟩
      · rw [pk_un e9]; exact e4 i hi
    · rw [if_neg e]; exact h.hV v hv, h.hgl, fun v h1 h2 => by
    show NewV (if v = u then setW (o.vs u) (upd (o.vs u).2.2.2.2 j (nI k)) else o.vs v)
    have h1 : o.nv ≤ v := h1
    rw [if_neg (show ¬ v = u by omega)]; exact h.hW v h1 h2⟩
theorem avg_n {a b : Nat} (ha : a ≤ 100) (hb : b ≤ 100) : (nI a + nI b) / 2 = nI ((a + b) / 2) := by
  rw [nI_add]
  exact pk_div (d := 2) (by omega) (by decide) (by decide)
theorem ok_share {M : Nat} {o : OB} (h : OkO M o) {u w : Nat} (hu : u < o.nv) (hw : w < o.nv) (h5 : ¬ (o.vs u).2.2.1 < 5) (hM : M < 2 ^ 29) : OkO (M + 5) (shO o u w) := by
  have hnv := h.hnv
  obtain ⟨h1, p, c, r, a1, a2, a3, e1, e2, e3, e4⟩ := h.hV u (by omega)
  obtain ⟨h1', p', c', r', a1', a2', a3', e1', e2', e3', e4'⟩ := h.hV w (by omega)
  have c5 : 5 ≤ c := by
    rw [e2] at h5
    exact Nat.le_of_not_lt (fun z => h5 (nI_lt (a := c) (b := 5) z (by omega)))
  refine ⟨h.hn, h.hnv, Nat.le_trans h.hd (by omega), h.hrn, h.hnu, fun v hv => ?_, h.hgl, fun v q1 q2 => ?_⟩
  · show OkV (M + 5) v (if v = u then buyU (o.vs u) (o.vs w) else if v = w then buyW (o.vs w) else o.vs v)
    by_cases e : v = u
    · rw [if_pos e, e]
      refine ⟨h1, p, c - 5, r, by omega, by omega, a3, e1, ?_, e3, fun i hi => ?_⟩
      · show (o.vs u).2.2.1 - 5 = nI (c - 5)
        rw [e2]; exact pk_sub (a := c) (b := 5) c5
      · show ∃ k : Nat, k ≤ 100 ∧ mapN (fun j x => (x + (o.vs w).2.2.2.2 j) / 2) (o.vs u).2.2.2.2 8 i = nI k
        obtain ⟨k1, hk1, z1⟩ := e4 i hi
        obtain ⟨k2, hk2, z2⟩ := e4' i hi
        rw [mapN_lt hi, z1, z2, avg_n hk1 hk2]
        exact ⟨_, by omega, rfl⟩
    · rw [if_neg e]
      by_cases e9 : v = w
      · rw [if_pos e9, e9]
        exact ⟨h1', p', c' + 5, r', by omega, by omega, a3', e1', by show (o.vs w).2.2.1 + 5 = _; rw [e2']; exact nI_add c' 5, e3', e4'⟩
      · rw [if_neg e9]; exact (h.hV v hv).mono (by omega)
  · show NewV (if v = u then buyU (o.vs u) (o.vs w) else if v = w then buyW (o.vs w) else o.vs v)
    have q1 : o.nv ≤ v := q1
    rw [if_neg (show ¬ v = u by omega), if_neg (show ¬ v = w by omega)]; exact h.hW v q1 q2
