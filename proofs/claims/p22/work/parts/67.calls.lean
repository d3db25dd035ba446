/-! ===== the class's calls, over what is seen ===== -/
def aboutO (o : OB) (u k : Nat) : Int32 := aboutL (sgO o o.d) o.vs o.n o.nv u k
def countO (o : OB) (k : Nat) : Int32 := countL (sgO o o.d) o.rn o.vs o.n o.nv o.d k
def toldO (o : OB) (j k : Nat) : Int32 := toldL o.kd o.nu o.gl o.rn o.vs o.nv j k
def digO (o : OB) : Int64 := digL (countO o) o.gl o.rn (toldO o) o.n (aboutO o) (fun v k => (o.vs v).2.2.2.2 k) o.nv
/-- a village's days -/
def dV (o : OB) (V : VV) : Nat → VV
  | 0 => V
  | k + 1 => stepV (sgO o (o.d + k)) (rbB o.rn (o.d + k)) (dV o V k)
def ahO (o : OB) (u w i : Nat) : Bool := aheadV (dV o (o.vs u) i) (dV o (o.vs w) i)
def OvR (o : OB) (u w : Nat) (r : Int32) : Prop := (∃ i, i ≤ 120 ∧ r = nI i ∧ ahO o u w i = true ∧ ∀ j, j < i → ahO o u w j = false) ∨ (r = -1 ∧ ∀ j, j ≤ 120 → ahO o u w j = false)
def AtR (o : OB) (pl : Int32) (r : Int32) : Prop := ∃ i, i < o.nv ∧ r = nI i ∧ placeV o.vs o.nv (o.vs i) = pl
def covO (o : OB) (w : Nat) : Int32 := covL (sgO o o.d) o.vs o.nv w
theorem itL_dV (o : OB) {sa : Nat → Int32} {X : Nat → VV} {m : Nat} (hs : ∀ j, o.n ≤ j → sa j = 0) : ∀ k, (∀ j, o.n ≤ j → (itL o.kd o.nu o.gl o.rn o.n m o.d (sa, X) k).1 j = 0) ∧ ∀ v, v < m → (itL o.kd o.nu o.gl o.rn o.n m o.d (sa, X) k).2 v = dV o (X v) k
  | 0 => ⟨hs, fun _ _ => rfl⟩
  | k + 1 => by
    obtain ⟨h1, h2⟩ := itL_dV o hs k
    refine ⟨fun j hj => (saS_0 hj).trans (h1 j hj), fun v hv => ?_⟩
    show mapV (stepV (saS o.kd o.nu o.gl o.rn o.n (o.d + k) (itL o.kd o.nu o.gl o.rn o.n m o.d (sa, X) k).1) (rbB o.rn (o.d + k))) (itL o.kd o.nu o.gl o.rn o.n m o.d (sa, X) k).2 m v = _
    rw [mapV_lt hv, saS_z h1, h2 v hv]
    rfl
theorem itO_dV (o : OB) {v : Nat} (hv : v < o.nv) : ∀ k, (itO o k).vs v = dV o (o.vs v) k
  | 0 => rfl
  | k + 1 => by
    show mapV (stepV (sgO (itO o k) (itO o k).d) (rbB (itO o k).rn (itO o k).d)) (itO o k).vs (itO o k).nv v = _
    rw [itO_nv, mapV_lt hv, itO_sg, itO_rn, itO_d, itO_dV o hv k]
    rfl
theorem covL_cg {sa : Nat → Int32} {vs vs2 : Nat → VV} {m k : Nat} (h : ∀ v, v < m → vs v = vs2 v) : covL sa vs m k = covL sa vs2 m k := by
  unfold covL
  rw [sumN_cg (w := fun v => (vs v).2.1) (w2 := fun v => (vs2 v).2.1) (fun j hj => by rw [h j hj]), sumN_cg (w := fun v => (vs v).2.2.1) (w2 := fun v => (vs2 v).2.2.1) (fun j hj => by rw [h j hj]), sumN_cg (w := fun v => b2i (decide (0 < leadV sa (vs v)))) (w2 := fun v => b2i (decide (0 < leadV sa (vs2 v)))) (fun j hj => by rw [h j hj])]
theorem advF_r (P : Nat → Int32) : ∀ n, (advF P n).2 = -1 ∨ ∃ i, i < n ∧ (advF P n).2 = nI i
  | 0 => Or.inl rfl
  | n + 1 => by
    show (if (advF P n).1 < P (n + 1) then (P (n + 1), nI n) else advF P n).2 = -1 ∨ ∃ i, i < n + 1 ∧ (if (advF P n).1 < P (n + 1) then (P (n + 1), nI n) else advF P n).2 = nI i
    by_cases h : (advF P n).1 < P (n + 1)
    · rw [if_pos h]; exact Or.inr ⟨n, Nat.lt_succ_self n, rfl⟩
    · rw [if_neg h]
      rcases advF_r P n with e | ⟨i, hi, e⟩
      · exact Or.inl e
      · exact Or.inr ⟨i, by omega, e⟩
theorem ib_ok {j n : Nat} (h : j < n) (hn : n < 2 ^ 31) : inB (nI j) n = true := inB_nI h hn
section UU
variable {p : Program} {l : Launch} {e : Env} {R : Room} {s : State} {m : MethodId} {args : Array Value} {below : List Frame} {meth : Method} {c : Code} {H : Heap} {locs : List Loc} {cells slots : Nat} {Q : State → Prop}
variable {cc : ByteArray} {pc : Nat} {ls : Array Slot} {rest st0 : List Value} {g : GG} {L L0 Lw : List Nat} {f fw : Nat → va_E} {t lo bb : Nat} {b : SmA} {oc os : OB} {Ts ws : List Cond} {own C : String} {y : MethodName} {bytes : ByteArray} {maxL nL n index fr lc mc ms M : Nat} {ret : Option FieldType} {As : List Value} {xc : String → Prop}

theorem u_setGlass (S : CallFix p m c cc nL s args Ts own) (hst : l.stackTraces = false) (hK : KK g s) (hZ : ZZ L0 s.heap.size s) (hW : WD g t lo b oc os Lw fw (AA L0 s.heap.size) s.heap H locs) (hok : OkO M oc) (hMb : M < 2 ^ 29) {j k : Nat} (hj : j < 12) (hk : k < 61)
    (cw : CallW R s args own RX4 index yX4_setGlass bytes maxL ret wsX4_setGlass ({ frames := 7, cells := 2, slots := 12, locals := 110 }) 2 12 2)
    (hsize : ls.size = nL) (hWr : (rest.map fun v => v.category).sum ≤ 8) (hdg : decode cc pc = .ok (.invokevirtual index, 3)) (hcs : cells + 2 ≤ R.cells ∧ slots + 12 ≤ R.slots)
    (kk : ∀ (H1 : Heap) (locs1 : List Loc), WD g t lo b ((oc.d, oc.n, oc.nv, upd oc.gl j (nI k), oc.rn, oc.kd, oc.nu, oc.vs) : OB) os Lw fw (AA L0 s.heap.size) s.heap H1 locs1 → W p l e R s m args below meth c H1 locs1 (cells + 2) (slots + 12) Q (F0 m (pc + 3) ls (.int (oc.gl j) :: rest))) : W p l e R s m args below meth c H locs cells slots Q (F0 m pc ls (.int (nI k) :: .int (nI j) :: .ref lo :: rest)) := by
  refine wd_tw (As := [.int (nI j), .int (nI k)]) (Rr := (fun r => r = (oc.gl j))) (oc2 := ((oc.d, oc.n, oc.nv, upd oc.gl j (nI k), oc.rn, oc.kd, oc.nu, oc.vs) : OB)) S hK hZ hW (post := fun a Lc fc D => PX_setGlass a g Lc fc D (nI j) (nI k)) (xc := fun D => XC_setGlass D (nI j) (nI k)) (fun a Lc fc D h hO hN => x_setGlass l hst h hN (by have e9 := congrArg OB.d hO; have := hok.hd; show D.d + 130 < 2 ^ 30; have e8 : D.d = oc.d := e9; omega) (nI j) (nI k) H.size) ?_ ?_ cw rfl hsize rfl hWr hdg hcs (fun r H1 locs1 hr hW1 => ?_)
  · intro a Lc fc D h hO E hx
    have hn := h.hn
    have hnv := h.hnv
    subst hO
    rcases hx with ⟨_, h1⟩ | ⟨_, _, h1⟩
    · exact i_1 (ib_ok hj (by omega)) h1
    · exact i_1 (ib_ok hk (by omega)) h1
  · intro a Lc fc D r f2 h hO hp
    have hn := h.hn
    have hnv := h.hnv
    subst hO
    obtain ⟨⟨j2, hj2, e1, _, e2, e3⟩, hF⟩ := hp
    obtain rfl : j = j2 := (nI_eq (by omega) (by omega)).mp e1
    exact ⟨e2, _, h.pga e3 hF, rfl⟩
  · have hr : r = _ := hr
    subst hr
    exact kk H1 locs1 hW1
theorem u_setRain (S : CallFix p m c cc nL s args Ts own) (hst : l.stackTraces = false) (hK : KK g s) (hZ : ZZ L0 s.heap.size s) (hW : WD g t lo b oc os Lw fw (AA L0 s.heap.size) s.heap H locs) (hok : OkO M oc) (hMb : M < 2 ^ 29) {j : Nat} {bo : Bool} (hj : j < 12)
    (cw : CallW R s args own RX4 index yX4_setRain bytes maxL ret wsX4_setRain ({ frames := 7, cells := 1, slots := 6, locals := 110 }) 1 6 2)
    (hsize : ls.size = nL) (hWr : (rest.map fun v => v.category).sum ≤ 8) (hdg : decode cc pc = .ok (.invokevirtual index, 3)) (hcs : cells + 1 ≤ R.cells ∧ slots + 6 ≤ R.slots)
    (kk : ∀ (H1 : Heap) (locs1 : List Loc), WD g t lo b ((oc.d, oc.n, oc.nv, oc.gl, upd oc.rn j (b2i bo), oc.kd, oc.nu, oc.vs) : OB) os Lw fw (AA L0 s.heap.size) s.heap H1 locs1 → W p l e R s m args below meth c H1 locs1 (cells + 1) (slots + 6) Q (F0 m (pc + 3) ls (.int (oc.rn j) :: rest))) : W p l e R s m args below meth c H locs cells slots Q (F0 m pc ls (.int (b2i bo) :: .int (nI j) :: .ref lo :: rest)) := by
  refine wd_tw (As := [.int (nI j), .int (b2i bo)]) (Rr := (fun r => r = (oc.rn j))) (oc2 := ((oc.d, oc.n, oc.nv, oc.gl, upd oc.rn j (b2i bo), oc.kd, oc.nu, oc.vs) : OB)) S hK hZ hW (post := fun a Lc fc D => PX_setRain a g Lc fc D (nI j) bo) (xc := fun D => XC_setRain D (nI j) bo) (fun a Lc fc D h hO hN => x_setRain l hst h hN (by have e9 := congrArg OB.d hO; have := hok.hd; show D.d + 130 < 2 ^ 30; have e8 : D.d = oc.d := e9; omega) (nI j) bo H.size) ?_ ?_ cw rfl hsize rfl hWr hdg hcs (fun r H1 locs1 hr hW1 => ?_)
  · intro a Lc fc D h hO E hx
    have hn := h.hn
    have hnv := h.hnv
    subst hO
    obtain ⟨_, h1⟩ := hx
    exact i_1 (ib_ok hj (by omega)) h1
  · intro a Lc fc D r f2 h hO hp
    have hn := h.hn
    have hnv := h.hnv
    subst hO
    obtain ⟨⟨j2, hj2, e1, e2, e3⟩, hF⟩ := hp
    obtain rfl : j = j2 := (nI_eq (by omega) (by omega)).mp e1
    exact ⟨e2, _, h.pra (fun k hk => by unfold upd; by_cases q : k = j; rw [if_pos q]; exact ⟨bo, rfl⟩; rw [if_neg q]; exact h.hrn k hk) e3 hF, rfl⟩
  · have hr : r = _ := hr
    subst hr
    exact kk H1 locs1 hW1
theorem u_join (S : CallFix p m c cc nL s args Ts own) (hst : l.stackTraces = false) (hK : KK g s) (hZ : ZZ L0 s.heap.size s) (hW : WD g t lo b oc os Lw fw (AA L0 s.heap.size) s.heap H locs) (hok : OkO M oc) (hMb : M < 2 ^ 29) (hj : oc.nv < 6)
    (cw : CallW R s args own RX4 index yX4_join bytes maxL ret wsX4_join ({ frames := 6, cells := 1, slots := 6, locals := 90 }) 1 6 0)
    (hsize : ls.size = nL) (hWr : (rest.map fun v => v.category).sum ≤ 8) (hdg : decode cc pc = .ok (.invokevirtual index, 3)) (hcs : cells + 1 ≤ R.cells ∧ slots + 6 ≤ R.slots)
    (kk : ∀ (H1 : Heap) (locs1 : List Loc), WD g t lo b ((oc.d, oc.n, oc.nv + 1, oc.gl, oc.rn, oc.kd, oc.nu, oc.vs) : OB) os Lw fw (AA L0 s.heap.size) s.heap H1 locs1 → W p l e R s m args below meth c H1 locs1 (cells + 1) (slots + 6) Q (F0 m (pc + 3) ls (.int (nI oc.nv) :: rest))) : W p l e R s m args below meth c H locs cells slots Q (F0 m pc ls (.ref lo :: rest)) := by
  refine wd_tw (As := []) (Rr := (fun r => r = (nI oc.nv))) (oc2 := ((oc.d, oc.n, oc.nv + 1, oc.gl, oc.rn, oc.kd, oc.nu, oc.vs) : OB)) S hK hZ hW (post := fun a Lc fc D => PX_join a g Lc fc D ) (xc := fun D => XC_join D ) (fun a Lc fc D h hO hN => x_join l hst h hN (by have e9 := congrArg OB.d hO; have := hok.hd; show D.d + 130 < 2 ^ 30; have e8 : D.d = oc.d := e9; omega)  H.size) ?_ ?_ cw rfl hsize rfl hWr hdg hcs (fun r H1 locs1 hr hW1 => ?_)
  · intro a Lc fc D h hO E hx
    have hn := h.hn
    have hnv := h.hnv
    subst hO
    obtain ⟨_, h1⟩ := hx
    have hj : D.nv < 6 := hj
    omega
  · intro a Lc fc D r f2 h hO hp
    have hn := h.hn
    have hnv := h.hnv
    subst hO
    obtain ⟨h1, e1, e2, hF⟩ := hp
    exact ⟨e1, _, h.prv (by omega) e2 hF, rfl⟩
  · have hr : r = _ := hr
    subst hr
    exact kk H1 locs1 hW1
theorem u_weigh (S : CallFix p m c cc nL s args Ts own) (hst : l.stackTraces = false) (hK : KK g s) (hZ : ZZ L0 s.heap.size s) (hW : WD g t lo b oc os Lw fw (AA L0 s.heap.size) s.heap H locs) (hok : OkO M oc) (hMb : M < 2 ^ 29) {u j k : Nat} (hu : u < oc.nv) (hj : j < oc.n) (hk : k < 101)
    (cw : CallW R s args own RX4 index yX4_weigh bytes maxL ret wsX4_weigh ({ frames := 7, cells := 3, slots := 18, locals := 111 }) 3 18 3)
    (hsize : ls.size = nL) (hWr : (rest.map fun v => v.category).sum ≤ 8) (hdg : decode cc pc = .ok (.invokevirtual index, 3)) (hcs : cells + 3 ≤ R.cells ∧ slots + 18 ≤ R.slots)
    (kk : ∀ (H1 : Heap) (locs1 : List Loc), WD g t lo b ((oc.d, oc.n, oc.nv, oc.gl, oc.rn, oc.kd, oc.nu, fun z => if z = u then setW (oc.vs u) (upd (oc.vs u).2.2.2.2 j (nI k)) else oc.vs z) : OB) os Lw fw (AA L0 s.heap.size) s.heap H1 locs1 → W p l e R s m args below meth c H1 locs1 (cells + 3) (slots + 18) Q (F0 m (pc + 3) ls (.int ((oc.vs u).2.2.2.2 j) :: rest))) : W p l e R s m args below meth c H locs cells slots Q (F0 m pc ls (.int (nI k) :: .int (nI j) :: .int (nI u) :: .ref lo :: rest)) := by
  refine wd_tw (As := [.int (nI u), .int (nI j), .int (nI k)]) (Rr := (fun r => r = ((oc.vs u).2.2.2.2 j))) (oc2 := ((oc.d, oc.n, oc.nv, oc.gl, oc.rn, oc.kd, oc.nu, fun z => if z = u then setW (oc.vs u) (upd (oc.vs u).2.2.2.2 j (nI k)) else oc.vs z) : OB)) S hK hZ hW (post := fun a Lc fc D => PX_weigh a g Lc fc D (nI u) (nI j) (nI k)) (xc := fun D => XC_weigh D (nI u) (nI j) (nI k)) (fun a Lc fc D h hO hN => x_weigh l hst h hN (by have e9 := congrArg OB.d hO; have := hok.hd; show D.d + 130 < 2 ^ 30; have e8 : D.d = oc.d := e9; omega) (nI u) (nI j) (nI k) H.size) ?_ ?_ cw rfl hsize rfl hWr hdg hcs (fun r H1 locs1 hr hW1 => ?_)
  · intro a Lc fc D h hO E hx
    have hn := h.hn
    have hnv := h.hnv
    subst hO
    have hu : u < D.nv := hu
    have hj : j < D.n := hj
    rcases hx with ⟨_, h1⟩ | ⟨_, _, h1⟩
    · rw [ib_ok hu (by omega), ib_ok hj (by omega)] at h1; cases h1
    · exact i_1 (ib_ok hk (by omega)) h1
  · intro a Lc fc D r f2 h hO hp
    have hn := h.hn
    have hnv := h.hnv
    subst hO
    have hu : u < D.nv := hu
    have hj : j < D.n := hj
    obtain ⟨u2, j2, h1, e1, h2, e2, _, e3, hV2, hF⟩ := hp
    obtain rfl : u = u2 := (nI_eq (by omega) (by omega)).mp e1
    obtain rfl : j = j2 := (nI_eq (by omega) (by omega)).mp e2
    exact ⟨e3, _, h.pvil hV2 (fun x hx => hF x (nm_c (hx u (by omega)).2 List.not_mem_nil)), rfl⟩
  · have hr : r = _ := hr
    subst hr
    exact kk H1 locs1 hW1
theorem u_says (S : CallFix p m c cc nL s args Ts own) (hst : l.stackTraces = false) (hK : KK g s) (hZ : ZZ L0 s.heap.size s) (hW : WD g t lo b oc os Lw fw (AA L0 s.heap.size) s.heap H locs) (hok : OkO M oc) (hMb : M < 2 ^ 29) {j k : Nat} (hj : j < oc.n) (hk : k < 1000)
    (cw : CallW R s args own RX4 index yX4_says bytes maxL ret wsX4_says ({ frames := 7, cells := 2, slots := 12, locals := 111 }) 2 12 2)
    (hsize : ls.size = nL) (hWr : (rest.map fun v => v.category).sum ≤ 8) (hdg : decode cc pc = .ok (.invokevirtual index, 3)) (hcs : cells + 2 ≤ R.cells ∧ slots + 12 ≤ R.slots)
    (kk : ∀ (H1 : Heap) (locs1 : List Loc), WD g t lo b oc os Lw fw (AA L0 s.heap.size) s.heap H1 locs1 → W p l e R s m args below meth c H1 locs1 (cells + 2) (slots + 12) Q (F0 m (pc + 3) ls (.int (b2i (sayB (oc.kd j) (oc.nu j) oc.gl oc.rn k)) :: rest))) : W p l e R s m args below meth c H locs cells slots Q (F0 m pc ls (.int (nI k) :: .int (nI j) :: .ref lo :: rest)) := by
  refine wd_tw (As := [.int (nI j), .int (nI k)]) (Rr := (fun r => r = (b2i (sayB (oc.kd j) (oc.nu j) oc.gl oc.rn k)))) (oc2 := oc) S hK hZ hW (post := fun a Lc fc D => PX_says a g Lc fc D (nI j) (nI k)) (xc := fun D => XC_says D (nI j) (nI k)) (fun a Lc fc D h hO hN => x_says l hst h hN (by have e9 := congrArg OB.d hO; have := hok.hd; show D.d + 130 < 2 ^ 30; have e8 : D.d = oc.d := e9; omega) (nI j) (nI k) H.size) ?_ ?_ cw rfl hsize rfl hWr hdg hcs (fun r H1 locs1 hr hW1 => ?_)
  · intro a Lc fc D h hO E hx
    have hn := h.hn
    have hnv := h.hnv
    subst hO
    have hj : j < D.n := hj
    rcases hx with ⟨_, h1⟩ | ⟨_, _, h1⟩
    · exact i_1 (ib_ok hj (by omega)) h1
    · exact i_1 (ib_ok hk (by omega)) h1
  · intro a Lc fc D r f2 h hO hp
    have hn := h.hn
    have hnv := h.hnv
    subst hO
    have hj : j < D.n := hj
    obtain ⟨⟨j2, k2, h1, e1, h2, e2, e3⟩, rfl⟩ := hp
    obtain rfl : j = j2 := (nI_eq (by omega) (by omega)).mp e1
    obtain rfl : k = k2 := (nI_eq (by omega) (by omega)).mp e2
    exact ⟨e3, D, h, rfl⟩
  · have hr : r = _ := hr
    subst hr
    exact kk H1 locs1 hW1
theorem u_told (S : CallFix p m c cc nL s args Ts own) (hst : l.stackTraces = false) (hK : KK g s) (hZ : ZZ L0 s.heap.size s) (hW : WD g t lo b oc os Lw fw (AA L0 s.heap.size) s.heap H locs) (hok : OkO M oc) (hMb : M < 2 ^ 29) {j k : Nat} (hj : j < oc.n) (hk : k < 4)
    (cw : CallW R s args own RX4 index yX4_told bytes maxL ret wsX4_told ({ frames := 7, cells := 2, slots := 12, locals := 112 }) 2 12 2)
    (hsize : ls.size = nL) (hWr : (rest.map fun v => v.category).sum ≤ 8) (hdg : decode cc pc = .ok (.invokevirtual index, 3)) (hcs : cells + 2 ≤ R.cells ∧ slots + 12 ≤ R.slots)
    (kk : ∀ (H1 : Heap) (locs1 : List Loc), WD g t lo b oc os Lw fw (AA L0 s.heap.size) s.heap H1 locs1 → W p l e R s m args below meth c H1 locs1 (cells + 2) (slots + 12) Q (F0 m (pc + 3) ls (.int (toldO oc j k) :: rest))) : W p l e R s m args below meth c H locs cells slots Q (F0 m pc ls (.int (nI k) :: .int (nI j) :: .ref lo :: rest)) := by
  refine wd_tw (As := [.int (nI j), .int (nI k)]) (Rr := (fun r => r = (toldO oc j k))) (oc2 := oc) S hK hZ hW (post := fun a Lc fc D => PX_told a g Lc fc D (nI j) (nI k)) (xc := fun D => XC_told D (nI j) (nI k)) (fun a Lc fc D h hO hN => x_told l hst h hN (by have e9 := congrArg OB.d hO; have := hok.hd; show D.d + 130 < 2 ^ 30; have e8 : D.d = oc.d := e9; omega) (nI j) (nI k) H.size) ?_ ?_ cw rfl hsize rfl hWr hdg hcs (fun r H1 locs1 hr hW1 => ?_)
  · intro a Lc fc D h hO E hx
    have hn := h.hn
    have hnv := h.hnv
    subst hO
    have hj : j < D.n := hj
    obtain ⟨_, h1⟩ := hx
    rw [ib_ok hj (by omega), ib_ok hk (by omega)] at h1
    cases h1
  · intro a Lc fc D r f2 h hO hp
    have hn := h.hn
    have hnv := h.hnv
    subst hO
    have hj : j < D.n := hj
    obtain ⟨⟨j2, k2, h1, e1, h2, e2, e3⟩, rfl⟩ := hp
    obtain rfl : j = j2 := (nI_eq (by omega) (by omega)).mp e1
    obtain rfl : k = k2 := (nI_eq (by omega) (by omega)).mp e2
    exact ⟨e3, D, h, rfl⟩
  · have hr : r = _ := hr
    subst hr
    exact kk H1 locs1 hW1
theorem u_weight (S : CallFix p m c cc nL s args Ts own) (hst : l.stackTraces = false) (hK : KK g s) (hZ : ZZ L0 s.heap.size s) (hW : WD g t lo b oc os Lw fw (AA L0 s.heap.size) s.heap H locs) (hok : OkO M oc) (hMb : M < 2 ^ 29) {u j : Nat} (hu : u < oc.nv) (hj : j < oc.n)
    (cw : CallW R s args own RX4 index yX4_weight bytes maxL ret wsX4_weight ({ frames := 7, cells := 2, slots := 12, locals := 111 }) 2 12 2)
    (hsize : ls.size = nL) (hWr : (rest.map fun v => v.category).sum ≤ 8) (hdg : decode cc pc = .ok (.invokevirtual index, 3)) (hcs : cells + 2 ≤ R.cells ∧ slots + 12 ≤ R.slots)
    (kk : ∀ (H1 : Heap) (locs1 : List Loc), WD g t lo b oc os Lw fw (AA L0 s.heap.size) s.heap H1 locs1 → W p l e R s m args below meth c H1 locs1 (cells + 2) (slots + 12) Q (F0 m (pc + 3) ls (.int ((oc.vs u).2.2.2.2 j) :: rest))) : W p l e R s m args below meth c H locs cells slots Q (F0 m pc ls (.int (nI j) :: .int (nI u) :: .ref lo :: rest)) := by
  refine wd_tw (As := [.int (nI u), .int (nI j)]) (Rr := (fun r => r = ((oc.vs u).2.2.2.2 j))) (oc2 := oc) S hK hZ hW (post := fun a Lc fc D => PX_weight a g Lc fc D (nI u) (nI j)) (xc := fun D => XC_weight D (nI u) (nI j)) (fun a Lc fc D h hO hN => x_weight l hst h hN (by have e9 := congrArg OB.d hO; have := hok.hd; show D.d + 130 < 2 ^ 30; have e8 : D.d = oc.d := e9; omega) (nI u) (nI j) H.size) ?_ ?_ cw rfl hsize rfl hWr hdg hcs (fun r H1 locs1 hr hW1 => ?_)
  · intro a Lc fc D h hO E hx
    have hn := h.hn
    have hnv := h.hnv
    subst hO
    have hu : u < D.nv := hu
    have hj : j < D.n := hj
    obtain ⟨_, h1⟩ := hx
    rw [ib_ok hu (by omega), ib_ok hj (by omega)] at h1
    cases h1
  · intro a Lc fc D r f2 h hO hp
    have hn := h.hn
    have hnv := h.hnv
    subst hO
    have hu : u < D.nv := hu
    have hj : j < D.n := hj
    obtain ⟨⟨u2, j2, h1, e1, h2, e2, e3⟩, rfl⟩ := hp
    obtain rfl : u = u2 := (nI_eq (by omega) (by omega)).mp e1
    obtain rfl : j = j2 := (nI_eq (by omega) (by omega)).mp e2
    exact ⟨e3, D, h, rfl⟩
  · have hr : r = _ := hr
    subst hr
    exact kk H1 locs1 hW1
theorem u_about (S : CallFix p m c cc nL s args Ts own) (hst : l.stackTraces = false) (hK : KK g s) (hZ : ZZ L0 s.heap.size s) (hW : WD g t lo b oc os Lw fw (AA L0 s.heap.size) s.heap H locs) (hok : OkO M oc) (hMb : M < 2 ^ 29) {u k : Nat} (hu : u < oc.nv) (hk : k < 7)
    (cw : CallW R s args own RX4 index yX4_about bytes maxL ret wsX4_about ({ frames := 7, cells := 2, slots := 12, locals := 112 }) 2 12 2)
    (hsize : ls.size = nL) (hWr : (rest.map fun v => v.category).sum ≤ 8) (hdg : decode cc pc = .ok (.invokevirtual index, 3)) (hcs : cells + 2 ≤ R.cells ∧ slots + 12 ≤ R.slots)
    (kk : ∀ (H1 : Heap) (locs1 : List Loc), WD g t lo b oc os Lw fw (AA L0 s.heap.size) s.heap H1 locs1 → W p l e R s m args below meth c H1 locs1 (cells + 2) (slots + 12) Q (F0 m (pc + 3) ls (.int (aboutO oc u k) :: rest))) : W p l e R s m args below meth c H locs cells slots Q (F0 m pc ls (.int (nI k) :: .int (nI u) :: .ref lo :: rest)) := by
  refine wd_tw (As := [.int (nI u), .int (nI k)]) (Rr := (fun r => r = (aboutO oc u k))) (oc2 := oc) S hK hZ hW (post := fun a Lc fc D => PX_about a g Lc fc D (nI u) (nI k)) (xc := fun D => XC_about D (nI u) (nI k)) (fun a Lc fc D h hO hN => x_about l hst h hN (by have e9 := congrArg OB.d hO; have := hok.hd; show D.d + 130 < 2 ^ 30; have e8 : D.d = oc.d := e9; omega) (nI u) (nI k) H.size) ?_ ?_ cw rfl hsize rfl hWr hdg hcs (fun r H1 locs1 hr hW1 => ?_)
  · intro a Lc fc D h hO E hx
    have hn := h.hn
    have hnv := h.hnv
    subst hO
    have hu : u < D.nv := hu
    obtain ⟨_, h1⟩ := hx
    rw [ib_ok hu (by omega), ib_ok hk (by omega)] at h1
    cases h1
  · intro a Lc fc D r f2 h hO hp
    have hn := h.hn
    have hnv := h.hnv
    subst hO
    have hu : u < D.nv := hu
    obtain ⟨u2, k2, h1, e1, h2, e2, e3, e4, hF⟩ := hp
    obtain rfl : u = u2 := (nI_eq (by omega) (by omega)).mp e1
    obtain rfl : k = k2 := (nI_eq (by omega) (by omega)).mp e2
    refine ⟨?_, _, h.psy (fun j hj => by by_cases q : 5 ≤ k; rw [if_pos q]; exact (saS_0 hj).trans (h.hsa j hj); rw [if_neg q]; exact h.hsa j hj) e4 hF, rfl⟩
    rw [e3, saS_z h.hsa]; rfl
  · have hr : r = _ := hr
    subst hr
    exact kk H1 locs1 hW1
theorem u_count (S : CallFix p m c cc nL s args Ts own) (hst : l.stackTraces = false) (hK : KK g s) (hZ : ZZ L0 s.heap.size s) (hW : WD g t lo b oc os Lw fw (AA L0 s.heap.size) s.heap H locs) (hok : OkO M oc) (hMb : M < 2 ^ 29) {k : Nat} (hk : k < 7)
    (cw : CallW R s args own RX4 index yX4_count bytes maxL ret wsX4_count ({ frames := 7, cells := 1, slots := 6, locals := 113 }) 1 6 1)
    (hsize : ls.size = nL) (hWr : (rest.map fun v => v.category).sum ≤ 8) (hdg : decode cc pc = .ok (.invokevirtual index, 3)) (hcs : cells + 1 ≤ R.cells ∧ slots + 6 ≤ R.slots)
    (kk : ∀ (H1 : Heap) (locs1 : List Loc), WD g t lo b oc os Lw fw (AA L0 s.heap.size) s.heap H1 locs1 → W p l e R s m args below meth c H1 locs1 (cells + 1) (slots + 6) Q (F0 m (pc + 3) ls (.int (countO oc k) :: rest))) : W p l e R s m args below meth c H locs cells slots Q (F0 m pc ls (.int (nI k) :: .ref lo :: rest)) := by
  refine wd_tw (As := [.int (nI k)]) (Rr := (fun r => r = (countO oc k))) (oc2 := oc) S hK hZ hW (post := fun a Lc fc D => PX_count a g Lc fc D (nI k)) (xc := fun D => XC_count D (nI k)) (fun a Lc fc D h hO hN => x_count l hst h hN (by have e9 := congrArg OB.d hO; have := hok.hd; show D.d + 130 < 2 ^ 30; have e8 : D.d = oc.d := e9; omega) (nI k) H.size) ?_ ?_ cw rfl hsize rfl hWr hdg hcs (fun r H1 locs1 hr hW1 => ?_)
  · intro a Lc fc D h hO E hx
    have hn := h.hn
    have hnv := h.hnv
    subst hO
    obtain ⟨_, h1⟩ := hx
    exact i_1 (ib_ok hk (by omega)) h1
  · intro a Lc fc D r f2 h hO hp
    have hn := h.hn
    have hnv := h.hnv
    subst hO
    obtain ⟨k2, h2, e2, e3, e4, hF⟩ := hp
    obtain rfl : k = k2 := (nI_eq (by omega) (by omega)).mp e2
    refine ⟨?_, _, h.psy (fun j hj => by by_cases q : k = 5; rw [if_pos q]; exact (saS_0 hj).trans (h.hsa j hj); rw [if_neg q]; exact h.hsa j hj) e4 hF, rfl⟩
    rw [e3, saS_z h.hsa]; rfl
  · have hr : r = _ := hr
    subst hr
    exact kk H1 locs1 hW1
theorem u_at (S : CallFix p m c cc nL s args Ts own) (hst : l.stackTraces = false) (hK : KK g s) (hZ : ZZ L0 s.heap.size s) (hW : WD g t lo b oc os Lw fw (AA L0 s.heap.size) s.heap H locs) (hok : OkO M oc) (hMb : M < 2 ^ 29) {pl : Int32} (hpl : ∃ v, v < oc.nv ∧ placeV oc.vs oc.nv (oc.vs v) = pl)
    (cw : CallW R s args own RX4 index yX4_at bytes maxL ret wsX4_at ({ frames := 7, cells := 7, slots := 42, locals := 111 }) 7 42 1)
    (hsize : ls.size = nL) (hWr : (rest.map fun v => v.category).sum ≤ 8) (hdg : decode cc pc = .ok (.invokevirtual index, 3)) (hcs : cells + 7 ≤ R.cells ∧ slots + 42 ≤ R.slots)
    (kk : ∀ (r : Int32) (H1 : Heap) (locs1 : List Loc), AtR oc pl r → WD g t lo b oc os Lw fw (AA L0 s.heap.size) s.heap H1 locs1 → W p l e R s m args below meth c H1 locs1 (cells + 7) (slots + 42) Q (F0 m (pc + 3) ls (.int r :: rest))) : W p l e R s m args below meth c H locs cells slots Q (F0 m pc ls (.int pl :: .ref lo :: rest)) := by
  refine wd_tw (As := [.int pl]) (Rr := AtR oc pl) (oc2 := oc) S hK hZ hW (post := fun a Lc fc D => PX_at a g Lc fc D pl) (xc := fun D => XC_at D pl) (fun a Lc fc D h hO hN => x_at l hst h hN (by have e9 := congrArg OB.d hO; have := hok.hd; show D.d + 130 < 2 ^ 30; have e8 : D.d = oc.d := e9; omega) pl H.size) ?_ ?_ cw rfl hsize rfl hWr hdg hcs kk
  · intro a Lc fc D h hO E hx
    have hn := h.hn
    have hnv := h.hnv
    subst hO
    obtain ⟨_, h1⟩ := hx
    obtain ⟨v, hv, e9⟩ := hpl
    exact h1 v hv e9
  · intro a Lc fc D r f2 h hO hp
    have hn := h.hn
    have hnv := h.hnv
    subst hO
    obtain ⟨⟨i, h1, e1, e2, _⟩, rfl⟩ := hp
    exact ⟨⟨i, h1, e1, e2⟩, D, h, rfl⟩
theorem u_pass (S : CallFix p m c cc nL s args Ts own) (hst : l.stackTraces = false) (hK : KK g s) (hZ : ZZ L0 s.heap.size s) (hW : WD g t lo b oc os Lw fw (AA L0 s.heap.size) s.heap H locs) (hok : OkO M oc) (hMb : M < 2 ^ 29) {k : Nat} (h1k : 1 ≤ k) (hk : k ≤ 90)
    (cw : CallW R s args own RX4 index yX4_pass bytes maxL ret wsX4_pass ({ frames := 7, cells := 1, slots := 6, locals := 137 }) 1 6 1)
    (hsize : ls.size = nL) (hWr : (rest.map fun v => v.category).sum ≤ 8) (hdg : decode cc pc = .ok (.invokevirtual index, 3)) (hcs : cells + 1 ≤ R.cells ∧ slots + 6 ≤ R.slots)
    (kk : ∀ (H1 : Heap) (locs1 : List Loc), WD g t lo b (itO oc k) os Lw fw (AA L0 s.heap.size) s.heap H1 locs1 → W p l e R s m args below meth c H1 locs1 (cells + 1) (slots + 6) Q (F0 m (pc + 3) ls (.int (hitK oc k) :: rest))) : W p l e R s m args below meth c H locs cells slots Q (F0 m pc ls (.int (nI k) :: .ref lo :: rest)) := by
  refine wd_tw (As := [.int (nI k)]) (Rr := (fun r => r = (hitK oc k))) (oc2 := (itO oc k)) S hK hZ hW (post := fun a Lc fc D => PX_pass a g Lc fc D (nI k)) (xc := fun D => XC_pass D (nI k)) (fun a Lc fc D h hO hN => x_pass l hst h hN (by have e9 := congrArg OB.d hO; have := hok.hd; show D.d + 130 < 2 ^ 30; have e8 : D.d = oc.d := e9; omega) (nI k) H.size) ?_ ?_ cw rfl hsize rfl hWr hdg hcs (fun r H1 locs1 hr hW1 => ?_)
  · intro a Lc fc D h hO E hx
    have hn := h.hn
    have hnv := h.hnv
    subst hO
    obtain ⟨_, h1⟩ := hx
    exact i_1 (dy_ok h1k hk (by omega)) h1
  · intro a Lc fc D r f2 h hO hp
    have hn := h.hn
    have hnv := h.hnv
    subst hO
    obtain ⟨k2, h1, h2, e1, e2, e3, e4, hV2, hF⟩ := hp
    obtain rfl : k = k2 := (nI_eq (by omega) (by omega)).mp e1
    obtain ⟨z1, z2⟩ := itL_O (Obs D) (sa := D.sa) h.hsa k
    refine ⟨?_, _, h.pday e3 e4 hV2 hF z1, ?_⟩
    · rw [e2]; exact sumN_cg (fun i _ => hitL_O (Obs D) h.hsa i)
    · have e5 : itO (Obs D) k = ((itO (Obs D) k).d, (itO (Obs D) k).n, (itO (Obs D) k).nv, (itO (Obs D) k).gl, (itO (Obs D) k).rn, (itO (Obs D) k).kd, (itO (Obs D) k).nu, (itO (Obs D) k).vs) := rfl
      rw [e5, itO_d, itO_n, itO_nv, itO_gl, itO_rn, itO_kd, itO_nu, ← z2]; rfl
  · have hr : r = _ := hr
    subst hr
    exact kk H1 locs1 hW1
theorem u_foresee (S : CallFix p m c cc nL s args Ts own) (hst : l.stackTraces = false) (hK : KK g s) (hZ : ZZ L0 s.heap.size s) (hW : WD g t lo b oc os Lw fw (AA L0 s.heap.size) s.heap H locs) (hok : OkO M oc) (hMb : M < 2 ^ 29) {k w : Nat} (h1k : 1 ≤ k) (hk : k ≤ 90) (h3 : 3 ≤ w) (h5 : w ≤ 5)
    (cw : CallW R s args own RX4 index yX4_foresee bytes maxL ret wsX4_foresee ({ frames := 7, cells := 8, slots := 48, locals := 137 }) 8 48 2)
    (hsize : ls.size = nL) (hWr : (rest.map fun v => v.category).sum ≤ 8) (hdg : decode cc pc = .ok (.invokevirtual index, 3)) (hcs : cells + 8 ≤ R.cells ∧ slots + 48 ≤ R.slots)
    (kk : ∀ (H1 : Heap) (locs1 : List Loc), WD g t lo b oc os Lw fw (AA L0 s.heap.size) s.heap H1 locs1 → W p l e R s m args below meth c H1 locs1 (cells + 8) (slots + 48) Q (F0 m (pc + 3) ls (.int (covO (itO oc k) w) :: rest))) : W p l e R s m args below meth c H locs cells slots Q (F0 m pc ls (.int (nI w) :: .int (nI k) :: .ref lo :: rest)) := by
  refine wd_tw (As := [.int (nI k), .int (nI w)]) (Rr := (fun r => r = (covO (itO oc k) w))) (oc2 := oc) S hK hZ hW (post := fun a Lc fc D => PX_foresee a g Lc fc D (nI k) (nI w)) (xc := fun D => XC_foresee D (nI k) (nI w)) (fun a Lc fc D h hO hN => x_foresee l hst h hN (by have e9 := congrArg OB.d hO; have := hok.hd; show D.d + 130 < 2 ^ 30; have e8 : D.d = oc.d := e9; omega) (nI k) (nI w) H.size) ?_ ?_ cw rfl hsize rfl hWr hdg hcs (fun r H1 locs1 hr hW1 => ?_)
  · intro a Lc fc D h hO E hx
    have hn := h.hn
    have hnv := h.hnv
    subst hO
    rcases hx with ⟨_, h1⟩ | ⟨_, _, h1⟩
    · exact i_1 (dy_ok h1k hk (by omega)) h1
    · exact i_1 (wt_ok h3 h5) h1
  · intro a Lc fc D r f2 h hO hp
    have hn := h.hn
    have hnv := h.hnv
    subst hO
    obtain ⟨k2, w2, h1, h2, e1, h4, h6, e6, e2, e3, e4, hV2, hF⟩ := hp
    obtain rfl : k = k2 := (nI_eq (by omega) (by omega)).mp e1
    obtain rfl : w = w2 := (nI_eq (by omega) (by omega)).mp e6
    obtain ⟨z1, z2⟩ := itL_dV (Obs D) (sa := D.sa) (X := cpV D.vs D.tvs D.nv) (m := D.nv) h.hsa k
    refine ⟨?_, _, h.ptry e3 e4 hV2 hF (fun j hj => ?_), rfl⟩
    · rw [e2, show saS D.kd D.nu D.gl D.rn D.n (D.d + k) (itL D.kd D.nu D.gl D.rn D.n D.nv D.d (D.sa, cpV D.vs D.tvs D.nv) k).1 = saS D.kd D.nu D.gl D.rn D.n (D.d + k) (fun _ => 0) from saS_z z1]
      unfold covO
      rw [itO_sg, itO_d, itO_nv]
      refine covL_cg (fun v hv => (z2 v hv).trans ?_)
      rw [show cpV D.vs D.tvs D.nv v = D.vs v from if_pos hv]
      exact (itO_dV (Obs D) hv k).symm
    · by_cases q : w = 5
      · rw [if_pos q]; exact (saS_0 hj).trans (z1 j hj)
      · rw [if_neg q]; exact z1 j hj
  · have hr : r = _ := hr
    subst hr
    exact kk H1 locs1 hW1
theorem u_overtakes (S : CallFix p m c cc nL s args Ts own) (hst : l.stackTraces = false) (hK : KK g s) (hZ : ZZ L0 s.heap.size s) (hW : WD g t lo b oc os Lw fw (AA L0 s.heap.size) s.heap H locs) (hok : OkO M oc) (hMb : M < 2 ^ 29) {u w : Nat} (hu : u < oc.nv) (hw : w < oc.nv) (hne : u ≠ w)
    (cw : CallW R s args own RX4 index yX4_overtakes bytes maxL ret wsX4_overtakes ({ frames := 7, cells := 250, slots := 1500, locals := 113 }) 250 1500 2)
    (hsize : ls.size = nL) (hWr : (rest.map fun v => v.category).sum ≤ 8) (hdg : decode cc pc = .ok (.invokevirtual index, 3)) (hcs : cells + 250 ≤ R.cells ∧ slots + 1500 ≤ R.slots)
    (kk : ∀ (r : Int32) (H1 : Heap) (locs1 : List Loc), OvR oc u w r → WD g t lo b oc os Lw fw (AA L0 s.heap.size) s.heap H1 locs1 → W p l e R s m args below meth c H1 locs1 (cells + 250) (slots + 1500) Q (F0 m (pc + 3) ls (.int r :: rest))) : W p l e R s m args below meth c H locs cells slots Q (F0 m pc ls (.int (nI w) :: .int (nI u) :: .ref lo :: rest)) := by
  refine wd_tw (As := [.int (nI u), .int (nI w)]) (Rr := OvR oc u w) (oc2 := oc) S hK hZ hW (post := fun a Lc fc D => PX_overtakes a g Lc fc D (nI u) (nI w)) (xc := fun D => XC_overtakes D (nI u) (nI w)) (fun a Lc fc D h hO hN => x_overtakes l hst h hN (by have e9 := congrArg OB.d hO; have := hok.hd; show D.d + 130 < 2 ^ 30; have e8 : D.d = oc.d := e9; omega) (nI u) (nI w) H.size) ?_ ?_ cw rfl hsize rfl hWr hdg hcs kk
  · intro a Lc fc D h hO E hx
    have hn := h.hn
    have hnv := h.hnv
    subst hO
    have hu : u < D.nv := hu
    have hw : w < D.nv := hw
    rcases hx with ⟨_, h1⟩ | ⟨_, _, h1⟩
    · rw [ib_ok hu (by omega), ib_ok hw (by omega)] at h1; cases h1
    · exact hne ((nI_eq (by omega) (by omega)).mp h1)
  · intro a Lc fc D r f2 h hO hp
    have hn := h.hn
    have hnv := h.hnv
    subst hO
    have hu : u < D.nv := hu
    have hw : w < D.nv := hw
    obtain ⟨u2, w2, i, h1, e1, h2, e2, _, hr, e3, e4, hV2, hF⟩ := hp
    obtain rfl : u = u2 := (nI_eq (by omega) (by omega)).mp e1
    obtain rfl : w = w2 := (nI_eq (by omega) (by omega)).mp e2
    have key : ∀ j, ahT D.kd D.nu D.gl D.rn D.n D.d (D.sa, twoV D.tvs (D.vs u) (D.vs w)) j = ahO (Obs D) u w j := fun j => by
      obtain ⟨z1, z2⟩ := itL_dV (Obs D) (sa := D.sa) (X := twoV D.tvs (D.vs u) (D.vs w)) (m := 2) h.hsa j
      have y1 := z2 0 (by omega)
      have y2 := z2 1 (by omega)
      unfold ahT ahO
      exact congr (congrArg aheadV y1) y2
    obtain ⟨z1, -⟩ := itL_dV (Obs D) (sa := D.sa) (X := twoV D.tvs (D.vs u) (D.vs w)) (m := 2) h.hsa i
    refine ⟨?_, _, h.ptry e3 e4 hV2 hF z1, rfl⟩
    rcases hr with ⟨a1, a2, a3, a4⟩ | ⟨a1, a2, a3⟩
    · exact Or.inl ⟨i, a1, a2, (key i).symm.trans a3, fun j hj => (key j).symm.trans (a4 j hj)⟩
    · exact Or.inr ⟨a1, fun j hj => (key j).symm.trans (a3 j hj)⟩
theorem u_advise (S : CallFix p m c cc nL s args Ts own) (hst : l.stackTraces = false) (hK : KK g s) (hZ : ZZ L0 s.heap.size s) (hW : WD g t lo b oc os Lw fw (AA L0 s.heap.size) s.heap H locs) (hok : OkO M oc) (hMb : M < 2 ^ 29) {u k : Nat} (hu : u < oc.nv) (h1k : 1 ≤ k) (hk : k ≤ 60)
    (cw : CallW R s args own RX4 index yX4_advise bytes maxL ret wsX4_advise ({ frames := 7, cells := 40, slots := 240, locals := 137 }) 40 240 2)
    (hsize : ls.size = nL) (hWr : (rest.map fun v => v.category).sum ≤ 8) (hdg : decode cc pc = .ok (.invokevirtual index, 3)) (hcs : cells + 40 ≤ R.cells ∧ slots + 240 ≤ R.slots)
    (kk : ∀ (r : Int32) (H1 : Heap) (locs1 : List Loc), (fun r => r = -1 ∨ ∃ i, i < oc.n ∧ r = nI i) r → WD g t lo b oc os Lw fw (AA L0 s.heap.size) s.heap H1 locs1 → W p l e R s m args below meth c H1 locs1 (cells + 40) (slots + 240) Q (F0 m (pc + 3) ls (.int r :: rest))) : W p l e R s m args below meth c H locs cells slots Q (F0 m pc ls (.int (nI k) :: .int (nI u) :: .ref lo :: rest)) := by
  refine wd_tw (As := [.int (nI u), .int (nI k)]) (Rr := (fun r => r = -1 ∨ ∃ i, i < oc.n ∧ r = nI i)) (oc2 := oc) S hK hZ hW (post := fun a Lc fc D => PX_advise a g Lc fc D (nI u) (nI k)) (xc := fun D => XC_advise D (nI u) (nI k)) (fun a Lc fc D h hO hN => x_advise l hst h hN (by have e9 := congrArg OB.d hO; have := hok.hd; show D.d + 130 < 2 ^ 30; have e8 : D.d = oc.d := e9; omega) (nI u) (nI k) H.size) ?_ ?_ cw rfl hsize rfl hWr hdg hcs kk
  · intro a Lc fc D h hO E hx
    have hn := h.hn
    have hnv := h.hnv
    subst hO
    have hu : u < D.nv := hu
    rcases hx with ⟨_, h1⟩ | ⟨_, _, h1⟩
    · exact i_1 (ib_ok hu (by omega)) h1
    · exact i_1 (dy_ok h1k hk (by omega)) h1
  · intro a Lc fc D r f2 h hO hp
    have hn := h.hn
    have hnv := h.hnv
    subst hO
    have hu : u < D.nv := hu
    obtain ⟨u2, k2, h1, e1, h2, h3, e2, hr, e3, e4, hV2, hF⟩ := hp
    obtain rfl : u = u2 := (nI_eq (by omega) (by omega)).mp e1
    obtain rfl : k = k2 := (nI_eq (by omega) (by omega)).mp e2
    obtain ⟨z1, -⟩ := itL_dV (Obs D) (sa := D.sa) (X := adV (D.vs u) D.tvs D.n D.n) (m := D.n + 1) h.hsa k
    refine ⟨?_, _, h.ptry e3 e4 hV2 hF z1, rfl⟩
    rw [hr]
    exact advF_r _ D.n
theorem u_digest (S : CallFix p m c cc nL s args Ts own) (hst : l.stackTraces = false) (hK : KK g s) (hZ : ZZ L0 s.heap.size s) (hW : WD g t lo b oc os Lw fw (AA L0 s.heap.size) s.heap H locs) (hok : OkO M oc) (hMb : M < 2 ^ 29)
    (cw : CallW R s args own RX4 index yX4_digest bytes maxL ret wsX4_digest ({ frames := 8, cells := 260, slots := 1560, locals := 135 }) 260 1560 0)
    (hsize : ls.size = nL) (hWr : (rest.map fun v => v.category).sum ≤ 8) (hdg : decode cc pc = .ok (.invokevirtual index, 3)) (hcs : cells + 260 ≤ R.cells ∧ slots + 1560 ≤ R.slots)
    (kk : ∀ (H1 : Heap) (locs1 : List Loc), WD g t lo b oc os Lw fw (AA L0 s.heap.size) s.heap H1 locs1 → W p l e R s m args below meth c H1 locs1 (cells + 260) (slots + 1560) Q (F0 m (pc + 3) ls (.long (digO oc) :: rest))) : W p l e R s m args below meth c H locs cells slots Q (F0 m pc ls (.ref lo :: rest)) := by
  refine wd_tl (As := []) (rr := digO oc) (oc2 := oc) S hK hZ hW (post := fun a Lc fc D => (fun r f2 => r = digL (fun k => countL (saS D.kd D.nu D.gl D.rn D.n D.d D.sa) D.rn D.vs D.n D.nv D.d k) D.gl D.rn (fun z k => toldL D.kd D.nu D.gl D.rn D.vs D.nv z k) D.n (fun v k => aboutL (saS D.kd D.nu D.gl D.rn D.n D.d D.sa) D.vs D.n D.nv v k) (fun v k => (D.vs v).2.2.2.2 k) D.nv ∧ (∃ sx, (sx = D.sa ∨ sx = saS D.kd D.nu D.gl D.rn D.n D.d D.sa) ∧ f2 a.sy = eI g 8 sx) ∧ Fr fc f2 [a.sy])) (xc := fun _ _ => False) (fun a Lc fc D h hO hN => x_digest l hst H.size h hN (by have e9 := congrArg OB.d hO; have := hok.hd; show D.d + 130 < 2 ^ 30; have e8 : D.d = oc.d := e9; omega)) (fun _ _ _ _ _ _ _ hx => hx) ?_ cw rfl hsize rfl hWr hdg hcs kk
  intro a Lc fc D r f2 h hO hp
  subst hO
  obtain ⟨e1, ⟨sx, hsx, e2⟩, hF⟩ := hp
  refine ⟨?_, _, h.psy (fun j hj => ?_) e2 hF, rfl⟩
  · rw [e1, saS_z h.hsa]; rfl
  · rcases hsx with rfl | rfl
    · exact h.hsa j hj
    · exact (saS_0 hj).trans (h.hsa j hj)
end UU
