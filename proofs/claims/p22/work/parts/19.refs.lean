/-! ===== methods that only read and answer a reference ===== -/
abbrev RQ (l : Launch) (g : GG) (y : MethodName) (ws : List Cond) (fr lo : Nat) (L : List Nat) (f : Nat → va_E) (As : List Value) (x : Nat) : Prop := Met l y ws ({ frames := fr, cells := 0, slots := 0, locals := lo }) (va_Pc As (rp g L f)) (va_Sr (fun _ => True) (fun _ => .ref x)) 0 0 (fun _ => False)
theorem RQ.start {l : Launch} {g : GG} {L : List Nat} {f : Nat → va_E} {y : MethodName} {ws ws' : List Cond} {fr lo : Nat} {As : List Value} {cc : ByteArray} {maxL : Nat} {ret : FieldType} {x : Nat} (hy : plainFor y = true) (hw : ws = Cond.code y cc maxL (some ret) :: ws') (hn : (lg_sl As).length ≤ maxL) (hrt : (∃ n, ret = .object n) ∨ ∃ t, ret = .array t)
    (body : ∀ (p : Program) (e : Env) (s : State) (m : MethodId) (args : Array Value) (below : List Frame) (meth : Method) (c : Code) (Q : State → Prop) (ls : Array Slot), p.tables.exec = Jvm.exec → c.code = cc → c.maxLocals = maxL → (∀ w ∈ ws, w.before args s = true) → s.vm.findClass y.cls = some m.cls → PP g L f s.heap → KK g s → lv_has ls maxL (lv_args 0 As) →
      (∀ (pc : Nat) (ls : Array Slot), decode cc pc = .ok (.areturn, 1) → W p l e ({ frames := fr, cells := 0, slots := 0, locals := lo } : Room) s m args below meth c s.heap [] 0 0 Q (F0 m pc ls [.ref x])) →
      W p l e ({ frames := fr, cells := 0, slots := 0, locals := lo } : Room) s m args below meth c s.heap [] 0 0 Q (F0 m 0 ls [])) : RQ l g y ws fr lo L f As x := by
  refine ofWF (cc := cc) (maxL := maxL) (ret := some ret) hy hw ?_
  intro p e s m args below meth c s₁ B hml hv
  obtain ⟨rfl, hP, hK⟩ := hv
  have hl := lv_entry As (n := maxL) hn
  rw [lg_entry_eq]
  have hlk := B.notSynchronized
  exact body p e s m _ below meth c _ _ B.exec B.bytes hml (atoms_spec (ws := ws) B.pre) (findClass_of_methodNamed B.named) hP hK hl (fun pc ls hd => W.aret B.exec B.bytes B.returns hrt (Or.inr ⟨_, rfl⟩) (fun t ht hW => ⟨0, rfl, trivial, ht⟩) (fun _ h => absurd h List.not_mem_nil) hd hlk)
section RQS
variable {p : Program} {l : Launch} {e : Env} {R : Room} {s : State} {m : MethodId} {args : Array Value} {below : List Frame} {meth : Method} {c : Code} {H : Heap} {locs : List Loc} {cells slots : Nat} {Q : State → Prop}
variable {cc : ByteArray} {pc : Nat} {ls : Array Slot} {rest st0 : List Value} {g : GG} {L : List Nat} {f : Nat → va_E} {b : Nat} {Ts ws : List Cond} {own C : String} {y : MethodName} {bytes : ByteArray} {maxL nL n index fr lo : Nat} {ret : Option FieldType} {As : List Value}
theorem rq_V (S : CallFix p m c cc nL s args Ts own) {x : Nat} (hM : RQ l g y ws fr lo L f (.ref b :: As) x) (cw : CallW R s args own C index y bytes maxL ret ws ({ frames := fr, cells := 0, slots := 0, locals := lo }) 0 0 n) (hK : KK g s) (hP : PP g L f H) (hL : b ∈ L) {ci : Nat} {fs : List Value} {T : u_T} {N : Nat} (hf : f b = .inr (ci, fs)) (hc : vwCl[ci]? = some (C, T, N))
    (hn : As.length = n) (hsize : ls.size = nL) (hstack : st0 = As.reverse ++ .ref b :: rest) (hW : (rest.map fun v => v.category).sum ≤ 8) (hdg : decode cc pc = .ok (.invokevirtual index, 3)) (hcs : cells ≤ R.cells ∧ slots ≤ R.slots)
    (kk : W p l e R s m args below meth c H locs cells slots Q (F0 m (pc + 3) ls (.ref x :: rest))) : W p l e R s m args below meth c H locs cells slots Q (F0 m pc ls st0) :=
  va_csr (W.runV S hM cw ⟨rp_blind, pg_recv hK hP hL hf hc, fun U hU hW => ⟨rfl, by rw [hU]; exact hP, KK.warm hW hK⟩⟩ rfl hn hsize hstack (lv_room hW) hdg hcs) (fun _ _ => kk)
end RQS
