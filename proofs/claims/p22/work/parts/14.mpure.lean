/-! ===== the reference: what its methods compute ===== -/
/-- is x a number below n (n small) -/
def inB (x : Int32) (n : Nat) : Bool := decide (0 ≤ x ∧ x < nI n)
theorem inB_p {x : Int32} {n : Nat} (hn : n ≤ 1000) : (0 ≤ x ∧ x ≤ nI n - 1) ↔ (0 ≤ x ∧ x < nI n) := by
  have e : x ≤ nI n - 1 ↔ x < nI n := by
    cases n with
    | zero =>
      rw [Int32.le_iff_toInt_le, Int32.lt_iff_toInt_lt]
      have h1 : (nI 0 - 1).toInt = -1 := by decide
      have h2 : (nI 0).toInt = 0 := by decide
      rw [h1, h2]; omega
    | succ m =>
      rw [nI_pred, Int32.le_iff_toInt_le, Int32.lt_iff_toInt_lt, nI_toInt (by omega), nI_toInt (by omega)]; omega
  rw [e]
theorem inB_of {x : Int32} {n : Nat} (h : inB x n = true) (hn : n < 2 ^ 31) : ∃ j, j < n ∧ x = nI j := by
  have h1 := of_decide_eq_true h
  have h2 : vp_in x n := vp_in_iff.mpr ⟨by have := Int32.le_iff_toInt_le.mp h1.1; simpa using this, by have := Int32.lt_iff_toInt_lt.mp h1.2; rwa [nI_toInt hn] at this⟩
  exact vp_in_of h2 hn
theorem inB_nI {j n : Nat} (h : j < n) (hn : n < 2 ^ 31) : inB (nI j) n = true := decide_eq_true ⟨nI_pos' (by omega), nI_lt h hn⟩
/-- the weights of rain less those of dry, at a village's row of 8 -/
def leanN (sd wt : Nat → Int32) (v : Nat) : Nat → Int32 := sumN (fun j => if sd j = 1 then wt (8 * v + j) else -wt (8 * v + j))
/-- a village's row of weights changed, below n -/
def rowN (F : Nat → Int32 → Int32) (wt : Nat → Int32) (v n : Nat) : Nat → Int32 := fun k => if k / 8 = v ∧ k % 8 < n then F (k % 8) (wt k) else wt k
theorem rowN_0 (F : Nat → Int32 → Int32) (wt : Nat → Int32) (v : Nat) : rowN F wt v 0 = wt := funext fun k => if_neg (fun h => Nat.not_lt_zero _ h.2)
theorem rowN_at (F : Nat → Int32 → Int32) (wt : Nat → Int32) (v n : Nat) (hn : n < 8) : rowN F wt v n (8 * v + n) = wt (8 * v + n) := if_neg (fun h => by omega)
theorem rowN_s {F : Nat → Int32 → Int32} {wt : Nat → Int32} {v n : Nat} {x : Int32} (hn : n < 8) (h : x = F n (wt (8 * v + n))) : upd (rowN F wt v n) (8 * v + n) x = rowN F wt v (n + 1) := by
  funext k
  unfold upd rowN
  by_cases h1 : k = 8 * v + n
  · subst h1
    have e1 : (8 * v + n) / 8 = v := by omega
    have e2 : (8 * v + n) % 8 = n := by omega
    simp [e1, e2, h]
  · have : (k / 8 = v ∧ k % 8 < n) ↔ (k / 8 = v ∧ k % 8 < n + 1) := by omega
    simp [h1, this]
def mlearn1 (t sd w : Int32) : Int32 := if sd = t then (if w + 1 < 100 then w + 1 else 100) else w - (w + 3) / 4
def msell1 (row co : Int32) : Int32 := if row ≤ 0 then (if 0 < co - 1 then co - 1 else 0) else co + (if row < 5 then row else 5)
def mhit (lean w : Int32) : Bool := decide (0 < lean) == decide (w = 1)
theorem mIx {d : Nat} (h : d < 2 ^ 30) : nI d - nI d / 12 * 12 = nI (d % 12) := pk_rem (d := 12) (by omega) (by decide) (by decide)
theorem mIp {x : Int32} {d : Nat} (hx : x = nI d) (h : d < 2 ^ 30) : x - x / 12 * 12 = nI (d % 12) := by rw [hx]; exact mIx h
theorem mBf {x y z : Int32} {d : Nat} (hx : x = nI (d % 12)) (hy : y = x + 12) (hz : z = y - 1) : z - z / 12 * 12 = nI ((d + 11) % 12) := by
  have e : z = nI (d % 12 + 11) := by
    rw [hz, hy, hx]
    show nI (d % 12) + nI 12 - 1 = _
    rw [nI_add, show d % 12 + 12 = (d % 12 + 11) + 1 from rfl, nI_pred]
  rw [mIp e (by omega)]
  congr 1
  omega
theorem nat_add {x y : Int32} {a b : Nat} (hx : x = nI a) (hy : y = nI b) : x + y = nI (a + b) := by rw [hx, hy, nI_add]
theorem nat_mul {x y : Int32} {a b : Nat} (hx : x = nI a) (hy : y = nI b) : x * y = nI (a * b) := by rw [hx, hy, pk_mul]
theorem rgt1 {S : Bool} {r : Int32} (h : r = 1) (c : b2i S = 1) : (1 : Int32) = b2i (S == decide (r = 1)) := by rw [decide_eq_true h, b2i_1.mp c]; rfl
theorem rgt2 {S : Bool} {r : Int32} (h : r = 1) (c : ¬ b2i S = 1) : (0 : Int32) = b2i (S == decide (r = 1)) := by
  rw [decide_eq_true h]; cases S
  · rfl
  · exact absurd rfl c
theorem rgt3 {S : Bool} {r : Int32} (h : ¬ r = 1) (c : b2i S = 0) : (1 : Int32) = b2i (S == decide (r = 1)) := by rw [decide_eq_false h, b2i_0.mp c]; rfl
theorem rgt4 {S : Bool} {r : Int32} (h : ¬ r = 1) (c : ¬ b2i S = 0) : (0 : Int32) = b2i (S == decide (r = 1)) := by
  rw [decide_eq_false h]; cases S
  · exact absurd rfl c
  · rfl
theorem cpy_map (f g : Nat → Int32) (n : Nat) : va_cpy f g 0 0 n = mapN (fun j _ => f j) g n := by
  funext k
  unfold va_cpy mapN
  simp
/-- System.arraycopy of a whole int row onto another one of its length -/
theorem pg_copyi {p : Program} {l : Launch} {e : Env} {R : Room} {s : State} {m : MethodId} {args : Array Value} {below : List Frame} {meth : Method} {c : Code} {H : Heap} {locs : List Loc} {cells slots : Nat} {Q : State → Prop} {cc : ByteArray} {pc : Nat} {ls : Array Slot} {rest : List Value} {g : GG} {L : List Nat} {f : Nat → va_E} {a : Nat} {A : Nat → Prop} {H0 : Heap}
    (hx : p.tables.exec = Jvm.exec) (hb : c.code = cc) (hml : c.maxLocals = ls.size) {own : String} {index : Nat} (hown : s.vm.findClass own = some m.cls) (hlink : (Cond.methodLink own index arraycopyName).before args s = true) (hnat : (Cond.native arraycopyName).before args s = true) (hstat : (Cond.static arraycopyName).before args s = true) (hini : (Cond.initialized "java/lang/System").before args s = true)
    (hK : KK g s) (hP : PP g L f H) (hN : L.Nodup) (hA : ∀ a ∈ L, A a) (hS : va_S A H0 H locs) {a0 k : Nat} {h0 h1 : Nat → Int32} (hL0 : a0 ∈ L) (hf0 : f a0 = eI g k h0) (hL : a ∈ L) (hf : f a = eI g k h1) (hk : k < 2 ^ 31) {z1 z2 n : Int32} (e1 : z1 = nI 0) (e2 : z2 = nI 0) (en : n = nI k)
    (hframes : 1 ≤ R.frames) (hlocals : (rest.map fun v => v.category).sum + (nativeFrameWords "java/lang/System" "arraycopy" 5 + 11) ≤ R.locals) (hdg : decode cc pc = .ok (.invokestatic index, 3))
    (kk : ∀ (H1 : Heap) (locs1 : List Loc), PP g L (va_up f a (eI g k h0)) H1 → va_S A H0 H1 locs1 → W p l e R s m args below meth c H1 locs1 cells slots Q (F0 m (pc + 3) ls rest)) : W p l e R s m args below meth c H locs cells slots Q (F0 m pc ls (.int n :: .int z2 :: .ref a :: .int z1 :: .ref a0 :: rest)) := by
  subst e1; subst e2; subst en
  obtain ⟨q0, h0k⟩ := va_pl_get (X := []) (f := f) hL0
  rw [hf0] at h0k
  obtain ⟨q1, h1k⟩ := va_pl_get (X := []) (f := f) hL
  have h1' := h1k
  rw [hf] at h1'
  have e0 : (nI 0).toNatClampNeg = 0 := rfl
  refine va_copyi hx hb hml hown hlink hnat hstat hini hK.1 hP (DD_of hN hA) hS q0 q1 0 0 (ty := .int) h0k h1' rfl rfl rfl (by decide) (by decide) (nI_pos hk) (by rw [nI_clamp hk, e0]; omega) (by rw [nI_clamp hk, e0]; omega) (fun i hi => rfl) hframes hlocals hdg (fun H1 locs1 hP1 _ hS1 => kk H1 locs1 ?_ hS1)
  rw [nI_clamp hk, e0, cpy_map] at hP1
  have hP2 := PP.swap (PP.set hN hL h1k hP1) (va_up_self _ _ _) (h2 := h0) (fun j hj => mapN_lt hj)
  rw [bx_uu] at hP2
  exact hP2
/-- a contract of a method that writes and hands back a reference that is known -/
abbrev RF (l : Launch) (g : GG) (y : MethodName) (ws : List Cond) (fr lo : Nat) (L : List Nat) (f : Nat → va_E) (sz : Nat) (As : List Value) (x : Nat) (post : (Nat → va_E) → Prop) : Prop := Met l y ws ({ frames := fr, cells := 0, slots := 0, locals := lo }) (va_Pc As (wp_ g L f sz)) (va_Qr post (fun f2 a t => a = x ∧ PP g L f2 t.heap) (AA L sz)) 0 0 (AA L sz)
theorem RF.start {l : Launch} {g : GG} {L : List Nat} {f : Nat → va_E} {y : MethodName} {ws ws' : List Cond} {fr lo : Nat} {As : List Value} {cc : ByteArray} {maxL sz : Nat} {ret : FieldType} {x : Nat} {post : (Nat → va_E) → Prop} (hy : plainFor y = true) (hw : ws = Cond.code y cc maxL (some ret) :: ws') (hn : (lg_sl As).length ≤ maxL) (hrt : (∃ n, ret = .object n) ∨ ∃ t, ret = .array t)
    (body : ∀ (p : Program) (e : Env) (s : State) (m : MethodId) (args : Array Value) (below : List Frame) (meth : Method) (c : Code) (Q : State → Prop) (ls : Array Slot) (A : Nat → Prop), p.tables.exec = Jvm.exec → c.code = cc → c.maxLocals = maxL → (∀ w ∈ ws, w.before args s = true) → s.vm.findClass y.cls = some m.cls → (∀ a ∈ L, A a) → (∀ q, s.heap.size ≤ q → A q) → va_S A s.heap s.heap [] → PP g L f s.heap → KK g s → lv_has ls maxL (lv_args 0 As) →
      (∀ (f2 : Nat → va_E) (H : Heap) (locs : List Loc) (pc : Nat) (ls : Array Slot), post f2 → PP g L f2 H → va_S A s.heap H locs → decode cc pc = .ok (.areturn, 1) → W p l e ({ frames := fr, cells := 0, slots := 0, locals := lo } : Room) s m args below meth c H locs 0 0 Q (F0 m pc ls [.ref x])) →
      W p l e ({ frames := fr, cells := 0, slots := 0, locals := lo } : Room) s m args below meth c s.heap [] 0 0 Q (F0 m 0 ls [])) : RF l g y ws fr lo L f sz As x post := by
  refine ofWF (cc := cc) (maxL := maxL) (ret := some ret) hy hw ?_
  intro p e s m args below meth c s₁ B hml hv
  obtain ⟨rfl, hsz, hP, hK⟩ := hv
  subst hsz
  have hl := lv_entry As (n := maxL) hn
  rw [lg_entry_eq]
  have hlk := B.notSynchronized
  exact body p e s m _ below meth c _ _ (AA L s.heap.size) B.exec B.bytes hml (atoms_spec (ws := ws) B.pre) (findClass_of_methodNamed B.named) (fun _ h => Or.inl h) (fun _ h => Or.inr h) va_S.rf hP hK hl (fun f2 H locs pc ls hp hP2 hS hd => W.aret B.exec B.bytes B.returns hrt (Or.inr ⟨_, rfl⟩) (fun t ht hW => ⟨⟨f2, x, rfl, hp, rfl, by rw [ht]; exact hP2⟩, hS.F ht⟩) hS.2.2 hd hlk)
section PR
variable {p : Program} {l : Launch} {e : Env} {R : Room} {s : State} {m : MethodId} {args : Array Value} {below : List Frame} {meth : Method} {c : Code} {H : Heap} {locs : List Loc} {cells slots : Nat} {Q : State → Prop}
variable {cc : ByteArray} {pc : Nat} {ls : Array Slot} {rest st0 : List Value} {g : GG} {L : List Nat} {f : Nat → va_E} {b : Nat} {A : Nat → Prop} {H0 : Heap} {Ts ws : List Cond} {own C : String} {y : MethodName} {bytes : ByteArray} {maxL nL n index fr lo : Nat} {ret : Option FieldType} {As : List Value}
theorem rf_V (S : CallFix p m c cc nL s args Ts own) {post : (Nat → va_E) → Prop} {x : Nat} (hM : RF l g y ws fr lo L f H.size (.ref b :: As) x post) (cw : CallW R s args own C index y bytes maxL ret ws ({ frames := fr, cells := 0, slots := 0, locals := lo }) 0 0 n) (hK : KK g s) (hP : PP g L f H) (hA : ∀ a ∈ L, A a) (hA2 : ∀ q, H0.size ≤ q → A q) (hS : va_S A H0 H locs) (hL : b ∈ L) {ci : Nat} {fs : List Value} {T : u_T} {N : Nat} (hf : f b = .inr (ci, fs)) (hc : vwCl[ci]? = some (C, T, N))
    (hn : As.length = n) (hsize : ls.size = nL) (hstack : st0 = As.reverse ++ .ref b :: rest) (hW : (rest.map fun v => v.category).sum ≤ 8) (hdg : decode cc pc = .ok (.invokevirtual index, 3)) (hcs : cells ≤ R.cells ∧ slots ≤ R.slots)
    (kk : ∀ (f2 : Nat → va_E) (H1 : Heap) (locs1 : List Loc), post f2 → PP g L f2 H1 → va_S A H0 H1 locs1 → W p l e R s m args below meth c H1 locs1 cells slots Q (F0 m (pc + 3) ls (.ref x :: rest))) : W p l e R s m args below meth c H locs cells slots Q (F0 m pc ls st0) :=
  va_callr (va_runV S hM cw ⟨wp_blind, pg_recv hK hP hL hf hc, fun U hU hW => ⟨rfl, by rw [hU], by rw [hU]; exact hP, KK.warm hW hK⟩⟩ rfl hn hsize hstack (lv_room hW) hdg hcs) hS (AA_old hA) (AA_free hA hA2 hS) (fun f2 ra t H1 locs1 ht _ hw hB _ _ hS1 => by obtain ⟨rfl, hB⟩ := hB; exact kk f2 H1 locs1 hw (by rw [← ht]; exact hB) hS1)
end PR
