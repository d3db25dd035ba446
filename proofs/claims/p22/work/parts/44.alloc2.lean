/-! ===== what the constructors lay ===== -/
abbrev w20 : Nat → Int32 := mapN (fun _ _ => 20) (fun _ => 0) 8
abbrev vs0 : Nat → VV := fun v => (nI v, 0, 10, 0, w20)
def vilR (ad : Nat → Nat) (i : Nat) : Nat → Option Nat := fun v => if v < i then some (ad v) else none
def pushN (ad : Nat → Nat) (i q : Nat) : Nat → Nat := fun v => if v = i then q else ad v
theorem vilR_0 (ad : Nat → Nat) : vilR ad 0 = fun _ => none := funext fun v => if_neg (Nat.not_lt_zero v)
theorem vilR_s (ad : Nat → Nat) (i q : Nat) : va_up (vilR ad i) i (some q) = vilR (pushN ad i q) (i + 1) := by
  funext v
  by_cases h : v = i
  · subst h
    rw [va_up_self]
    unfold vilR pushN
    rw [if_pos (Nat.lt_succ_self v), if_pos rfl]
  · rw [va_up_ne _ _ h]
    unfold vilR pushN
    rw [if_neg h]
    by_cases h2 : v < i
    · rw [if_pos h2, if_pos (by omega)]
    · rw [if_neg h2, if_neg (by omega)]
theorem Vils.frN {g : GG} {L L2 : List Nat} {f f2 : Nat → va_E} {cap : Nat} {ad aw : Nat → Nat} {vs : Nat → VV} (h : Vils g L f cap ad aw vs) (hs : ∀ a ∈ L, a ∈ L2) {as : List Nat} (hF : FrN L f f2 as) (hx : ∀ v, v < cap → ad v ∉ as ∧ aw v ∉ as) : Vils g L2 f2 cap ad aw vs := fun v hv => by
  obtain ⟨a1, a2, a3, a4⟩ := h v hv
  exact ⟨hs _ a1, (hF _ a1 (hx v hv).1).trans a2, hs _ a3, (hF _ a3 (hx v hv).2).trans a4⟩
theorem Vils.push {g : GG} {L : List Nat} {f : Nat → va_E} {i : Nat} {ad aw : Nat → Nat} (h : Vils g L f i ad aw vs0) {q w : Nat} (hq : q ∈ L) (hw : w ∈ L) (h1 : f q = eO 2 [.ref w, .int (nI i), .int 0, .int 10, .int 0]) (h2 : f w = eI g 8 w20) : Vils g L f (i + 1) (pushN ad i q) (pushN aw i w) vs0 := fun v hv => by
  by_cases e : v = i
  · subst e
    unfold pushN
    rw [if_pos rfl, if_pos rfl]
    exact ⟨hq, h1, hw, h2⟩
  · unfold pushN
    rw [if_neg e, if_neg e]
    exact h v (by omega)
theorem Dst.push {i : Nat} {ad aw : Nat → Nat} (h : Dst i ad aw) {q w : Nat} (h1 : ∀ v, v < i → q ≠ ad v ∧ w ≠ aw v) : Dst (i + 1) (pushN ad i q) (pushN aw i w) := fun u v hu hv hne => by
  unfold pushN
  by_cases e1 : u = i
  · by_cases e2 : v = i
    · exact absurd (e1.trans e2.symm) hne
    · rw [if_pos e1, if_neg e2, if_pos e1, if_neg e2]; exact h1 v (by omega)
  · by_cases e2 : v = i
    · rw [if_neg e1, if_pos e2, if_neg e1, if_pos e2]; exact ⟨(h1 u (by omega)).1.symm, (h1 u (by omega)).2.symm⟩
    · rw [if_neg e1, if_neg e2, if_neg e1, if_neg e2]; exact h u v (by omega) (by omega) hne
theorem pushN_all {P : Nat → Prop} {ad : Nat → Nat} {i q : Nat} (h : ∀ v, v < i → P (ad v)) (hq : P q) : ∀ v, v < i + 1 → P (pushN ad i q v) := fun v hv => by
  unfold pushN
  by_cases e : v = i
  · rw [if_pos e]; exact hq
  · rw [if_neg e]; exact h v (by omega)
theorem Sgs.one {g : GG} {L2 : List Nat} {f2 : Nat → va_E} {n e q : Nat} {so : Nat → Nat} {kd nu : Nat → Int32} {x y : Int32} (h0 : n = 0) (hq : q ∈ L2) (hfq : f2 q = eO 1 [.int x, .int y]) (he : e ∈ L2) (hfe : f2 e = eQ g 10 (va_up (fun _ => none) 0 (some q))) : Sgs g L2 f2 (n + 1) e (fun j => if j = n then q else so j) (va_up (fun _ => none) 0 (some q)) (upd kd n x) (upd nu n y) := fun j hj => by
  obtain rfl : n = j := by omega
  dsimp only
  unfold upd
  rw [if_pos rfl, if_pos rfl, if_pos rfl]
  exact ⟨hq, hfq, by rw [h0]; exact va_up_self _ _ _, he, hfe⟩
theorem Sgs.more {g : GG} {L L2 : List Nat} {f f2 : Nat → va_E} {n ed q al : Nat} {so : Nat → Nat} {el : Nat → Option Nat} {kd nu : Nat → Int32} {x y : Int32} {fs : List Value} (h : Sgs g L f n ed so el kd nu) (hs : ∀ a ∈ L, a ∈ L2) (hF : FrN L f f2 [al, ed]) (hal : f al = eO 0 fs) (he : ed ∈ L2) (hfe0 : f ed = eQ g 10 el) (hfe : f2 ed = eQ g 10 (va_up el n (some q))) (hq : q ∈ L2) (hfq : f2 q = eO 1 [.int x, .int y]) : Sgs g L2 f2 (n + 1) ed (fun j => if j = n then q else so j) (va_up el n (some q)) (upd kd n x) (upd nu n y) := fun j hj => by
  dsimp only
  unfold upd
  by_cases e : j = n
  · subst e
    rw [if_pos rfl, if_pos rfl, if_pos rfl]
    exact ⟨hq, hfq, va_up_self _ _ _, he, hfe⟩
  · obtain ⟨a1, a2, a3, -, -⟩ := h j (by omega)
    rw [if_neg e, if_neg e, if_neg e]
    exact ⟨hs _ a1, (hF _ a1 (nm_c (ne_e a2 hal (by simp)) (nm_c (ne_e a2 hfe0 (by simp)) List.not_mem_nil))).trans a2, (va_up_ne _ _ e).trans a3, he, hfe⟩
