/-! ===== sign, share, best, mean ===== -/
section UV
variable {p : Program} {l : Launch} {e : Env} {R : Room} {s : State} {m : MethodId} {args : Array Value} {below : List Frame} {meth : Method} {c : Code} {H : Heap} {locs : List Loc} {cells slots : Nat} {Q : State → Prop}
variable {cc : ByteArray} {pc : Nat} {ls : Array Slot} {rest st0 : List Value} {g : GG} {L L0 Lw : List Nat} {f fw : Nat → va_E} {t lo bb : Nat} {b : SmA} {oc os : OB} {Ts ws : List Cond} {own C : String} {y : MethodName} {bytes : ByteArray} {maxL nL n index fr lc mc ms M : Nat} {ret : Option FieldType} {As : List Value} {xc : String → Prop}
theorem tkx_V (S : CallFix p m c cc nL s args Ts own) {post : Int32 → (Nat → va_E) → Prop} (hM : TW l g y ws fr lc mc ms L f H.size (.ref bb :: As) post xc) (cw : CallW R s args own C index y bytes maxL ret ws ({ frames := fr, cells := mc, slots := ms, locals := lc }) mc ms n) (hK : KK g s) (hZ : ZZ L0 s.heap.size s) (hP : PP g L f H) (hA : ∀ a ∈ L, AA L0 s.heap.size a) (hS : va_S (AA L0 s.heap.size) s.heap H locs) (hL : bb ∈ L) {ci : Nat} {fs : List Value} {T : u_T} {N : Nat} (hf : f bb = .inr (ci, fs)) (hc : vwCl[ci]? = some (C, T, N))
    (hn : As.length = n) (hsize : ls.size = nL) (hstack : st0 = As.reverse ++ .ref bb :: rest) (hW : (rest.map fun v => v.category).sum ≤ 8) (hdg : decode cc pc = .ok (.invokevirtual index, 3)) (hcs : cells + mc ≤ R.cells ∧ slots + ms ≤ R.slots)
    (kx : ∀ (E : String) (ce : Cell) (q9 : Addr) (H1 : Heap) (locs1 : List Loc), xc E → PP g L f H1 → Kp L H H1 → va_S (AA L0 s.heap.size) s.heap H1 locs1 → H1[q9]? = some ce → ce.vm = .none → s.vm.findClass E = some ce.cls → vx_W p l e R s m args below meth c H1 locs1 (cells + mc) (slots + ms) Q (F0 m pc ls rest) q9)
    (kk : ∀ (r : Int32) (f2 : Nat → va_E) (H1 : Heap) (locs1 : List Loc), post r f2 → PP g L f2 H1 → Kp L H H1 → H.size ≤ H1.size → va_S (AA L0 s.heap.size) s.heap H1 locs1 → W p l e R s m args below meth c H1 locs1 (cells + mc) (slots + ms) Q (F0 m (pc + 3) ls (.int r :: rest))) : W p l e R s m args below meth c H locs cells slots Q (F0 m pc ls st0) :=
  vx_calli (vx_runV S hM cw ⟨tp_blind, pg_recv hK hP hL hf hc, fun U hU hW => ⟨rfl, by rw [hU], by rw [hU]; exact hP, KK.warm hW hK, ZZ.step2 hZ hS hU hW hA⟩⟩ rfl hn hsize hstack (lv_room hW) hdg hcs) hS (AA_old hA) (AA_free hA (fun _ h => Or.inr h) hS) (AA_old hA) (fun E ce q9 u t H1 locs1 ht _ _ hB _ hk hS1 h1 h2 h3 => kx E ce q9 H1 locs1 hB.1 (by rw [← ht]; exact hB.2) (Kp.of hk) hS1 h1 h2 h3) (fun r u T H1 locs1 ht _ hw hB hz hk hS1 => kk r u H1 locs1 hw (by rw [← ht]; exact hB) (Kp.of hk) hz hS1)
theorem tka_V (S : CallFix p m c cc nL s args Ts own) {post : Int32 → List Nat → (Nat → va_E) → Prop} (hM : TA l g y ws fr lc mc ms t L f H.size (.ref bb :: As) post xc) (cw : CallW R s args own C index y bytes maxL ret ws ({ frames := fr, cells := mc, slots := ms, locals := lc }) mc ms n) (hK : KK g s) (hZ : ZZ L0 s.heap.size s) (hDS : DS t L0 s.heap.size s) (hP : PP g L f H) (hA : ∀ a ∈ L, AA L0 s.heap.size a) (hS : va_S (AA L0 s.heap.size) s.heap H locs) (hL : bb ∈ L) {ci : Nat} {fs : List Value} {T : u_T} {N : Nat} (hf : f bb = .inr (ci, fs)) (hc : vwCl[ci]? = some (C, T, N))
    (hn : As.length = n) (hsize : ls.size = nL) (hstack : st0 = As.reverse ++ .ref bb :: rest) (hW : (rest.map fun v => v.category).sum ≤ 8) (hdg : decode cc pc = .ok (.invokevirtual index, 3)) (hcs : cells + mc ≤ R.cells ∧ slots + ms ≤ R.slots) (hxc : ∀ E, ¬ xc E)
    (kk : ∀ (r : Int32) (L2 : List Nat) (f2 : Nat → va_E) (H1 : Heap) (locs1 : List Loc), GR L L2 H.size → post r L2 f2 → PP g L2 f2 H1 → Kp L H H1 → va_S (AA L0 s.heap.size) s.heap H1 locs1 → W p l e R s m args below meth c H1 locs1 (cells + mc) (slots + ms) Q (F0 m (pc + 3) ls (.int r :: rest))) : W p l e R s m args below meth c H locs cells slots Q (F0 m pc ls st0) :=
  vx_calli (vx_runV S hM cw ⟨ta_blind, pg_recv hK hP hL hf hc, fun U hU hW => ⟨rfl, ⟨by rw [hU], by rw [hU]; exact hP, KK.warm hW hK, ZZ.step2 hZ hS hU hW hA⟩, DS.step hDS hS hU hW hA⟩⟩ rfl hn hsize hstack (lv_room hW) hdg hcs) hS (AA_old hA) (AA_free hA (fun _ h => Or.inr h) hS) (AA_old hA) (fun E ce q9 u t H1 locs1 ht _ _ hB _ _ hS1 h1 h2 h3 => (hxc E hB.1).elim) (fun r u T H1 locs1 ht _ hw hB _ hk hS1 => kk r u.1 u.2 H1 locs1 hw.1 hw.2 (by rw [← ht]; exact hB) (Kp.of hk) hS1)
theorem rdk_V {d0 : Drawn} (hd0 : s.drawn.sameBut d0 lw_cs) (S : CallFix p m c cc nL (s.setDrawn d0) args Ts own) {post : UInt64 → (Nat → va_E) → Prop} (hM : RD l g y ws fr lc L f H.size (.ref bb :: As) post) (cw : CallW R (s.setDrawn d0) args own C index y bytes maxL ret ws ({ frames := fr, cells := 0, slots := 0, locals := lc }) 0 0 n) (hK : KK g (s.setDrawn d0)) (hP : PP g L f H) (hA : ∀ a ∈ L, AA L0 s.heap.size a) (hS : va_S (AA L0 s.heap.size) s.heap H locs) (hL : bb ∈ L) {ci : Nat} {fs : List Value} {T : u_T} {N : Nat} (hf : f bb = .inr (ci, fs)) (hc : vwCl[ci]? = some (C, T, N))
    (hn : As.length = n) (hsize : ls.size = nL) (hstack : st0 = As.reverse ++ .ref bb :: rest) (hW : (rest.map fun v => v.category).sum ≤ 8) (hdg : decode cc pc = .ok (.invokevirtual index, 3)) (hcs : cells ≤ R.cells ∧ slots ≤ R.slots)
    (kk : ∀ (r : UInt64) (f2 : Nat → va_E) (H1 : Heap) (locs1 : List Loc) (d1 : Drawn), s.drawn.sameBut d1 lw_cs → post r f2 → PP g L f2 H1 → Kp L H H1 → va_S (AA L0 s.heap.size) s.heap H1 locs1 → W p l e R (s.setDrawn d1) m args below meth c H1 locs1 cells slots Q (F0 m (pc + 3) ls (.double r :: rest))) : W p l e R (s.setDrawn d0) m args below meth c H locs cells slots Q (F0 m pc ls st0) :=
  va_calldD hd0 (va_runV_D S hM cw ⟨wp_blind, pg_recv hK hP hL hf hc, fun U hU hW => ⟨rfl, by rw [hU], by rw [hU]; exact hP, KK.warm hW hK⟩⟩ rfl hn hsize hstack (lv_room hW) hdg hcs) hS (AA_old hA) (AA_free hA (fun _ h => Or.inr h) hS) (fun r f2 t H1 locs1 ht _ hw hB _ hk hS1 d1 hd1 => kk r f2 H1 locs1 d1 hd1 hw (by rw [← ht]; exact hB) (Kp.of hk) hS1)
theorem u_sign (S : CallFix p m c cc nL s args Ts own) (hst : l.stackTraces = false) (hK : KK g s) (hZ : ZZ L0 s.heap.size s) (hDS : DS t L0 s.heap.size s) (hW : WD g t lo b oc os Lw fw (AA L0 s.heap.size) s.heap H locs) (hok : OkO M oc) (hMb : M < 2 ^ 29) {k j : Nat} (h8 : oc.n < 8) (hk : k < 6) (hj : j < 61)
    (cw : CallW R s args own RX4 index yX4_sign bytes maxL ret wsX4_sign ({ frames := 6, cells := 12, slots := 720, locals := 108 }) 12 720 2)
    (hsize : ls.size = nL) (hWr : (rest.map fun v => v.category).sum ≤ 8) (hdg : decode cc pc = .ok (.invokevirtual index, 3)) (hcs : cells + 12 ≤ R.cells ∧ slots + 720 ≤ R.slots)
    (kk : ∀ (H1 : Heap) (locs1 : List Loc), WD g t lo b ((oc.d, oc.n + 1, oc.nv, oc.gl, oc.rn, upd oc.kd oc.n (nI k), upd oc.nu oc.n (nI j), oc.vs) : OB) os Lw fw (AA L0 s.heap.size) s.heap H1 locs1 → W p l e R s m args below meth c H1 locs1 (cells + 12) (slots + 720) Q (F0 m (pc + 3) ls (.int (nI oc.n) :: rest))) : W p l e R s m args below meth c H locs cells slots Q (F0 m pc ls (.int (nI j) :: .int (nI k) :: .ref lo :: rest)) := by
  obtain ⟨a, Lc, fc, Ls, fs, rfl, ⟨D, h, hO⟩, hMs, hNc, hNs, hNw, dcs, dcw, dsw, hPc, hPs, hPw, hAc, hAs, hAw, hS⟩ := hW
  have hd := hok.hd
  subst hO
  have h8 : D.n < 8 := h8
  refine tka_V (As := [.int (nI k), .int (nI j)]) S (x_sign l hst h hNc (by show D.d + 130 < 2 ^ 30; have e8 : D.d ≤ M := hd; omega) (nI k) (nI j) H.size) cw hK hZ hDS hPc hAc hS h.L_lo h.f_lo rfl rfl hsize rfl hWr hdg hcs (fun E hx => ?_) (fun r L2 f2 H1 locs1 hG hp hP1 hkp hS1 => ?_)
  · rcases hx with ⟨_, h1⟩ | ⟨_, _, _, h1⟩
    · rw [ib_ok hk (by omega), ib_ok hj (by omega)] at h1; cases h1
    · omega
  · obtain ⟨rfl, hn8, _, _, q, ed2, el2, hq, hq2, hed2, e1, hSg2, hF⟩ := hp
    have htL : t ∉ Lc := fun z => hDS.2.choose_spec.2.2.2.2.2.2 (hAc t z)
    have hed : ∀ {z : Nat} {e : va_E}, z ∈ Lc → fc z = e → (∀ k, e ≠ eQ g 10 k) → z ≠ D.ed := fun {z e} hz he hk e9 => by
      rcases Nat.eq_zero_or_pos D.n with h9 | h9
      · exact htL (by rw [← h.h0 h9, ← e9]; exact hz)
      · obtain ⟨_, _, _, _, b5⟩ := h.hSg 0 h9
        exact hk _ (by rw [← he, e9, b5])
    have hY2 := h.psgn (by omega) hG.2.1 e1 hSg2 hF hed (fun j _ => ⟨List.not_mem_nil, List.not_mem_nil⟩)
    have hAup : ∀ x ∈ L2, AA L0 s.heap.size x := fun x hx => AA_up hAc hS x (hG.2.2 x hx)
    exact kk H1 locs1 ⟨a, L2, f2, Ls, fs, rfl, ⟨_, hY2, rfl⟩, hMs, hG.1, hNs, hNw, dj_gr dcs hG.2.2 hPs, dj_gr dcw hG.2.2 hPw, dsw, hP1, hPs.kp (dj_sym dcs) hkp, hPw.kp (dj_sym dcw) hkp, hAup, hAs, hAw, hS1⟩
def shO (o : OB) (u w : Nat) : OB := (o.d, o.n, o.nv, o.gl, o.rn, o.kd, o.nu, fun z => if z = u then buyU (o.vs u) (o.vs w) else if z = w then buyW (o.vs w) else o.vs z)
theorem u_share (S : CallFix p m c cc nL s args Ts own) (hst : l.stackTraces = false) (hK : KK g s) (hZ : ZZ L0 s.heap.size s) (hW : WD g t lo b oc os Lw fw (AA L0 s.heap.size) s.heap H locs) (hok : OkO M oc) (hMb : M < 2 ^ 29) {u w : Nat} (hu : u < oc.nv) (hw : w < oc.nv) (hne : u ≠ w)
    (cw : CallW R s args own RX4 index yX4_share bytes maxL ret wsX4_share ({ frames := 7, cells := 4, slots := 24, locals := 111 }) 4 24 2)
    (hsize : ls.size = nL) (hWr : (rest.map fun v => v.category).sum ≤ 8) (hdg : decode cc pc = .ok (.invokevirtual index, 3)) (hcs : cells + 4 ≤ R.cells ∧ slots + 24 ≤ R.slots)
    (kx : ∀ (ce : Cell) (q9 : Addr) (H1 : Heap) (locs1 : List Loc), (oc.vs u).2.2.1 < 5 → WD g t lo b oc os Lw fw (AA L0 s.heap.size) s.heap H1 locs1 → H1[q9]? = some ce → ce.vm = .none → s.vm.findClass "java/lang/IllegalStateException" = some ce.cls → vx_W p l e R s m args below meth c H1 locs1 (cells + 4) (slots + 24) Q (F0 m pc ls rest) q9)
    (kk : ∀ (H1 : Heap) (locs1 : List Loc), ¬ (oc.vs u).2.2.1 < 5 → WD g t lo b (shO oc u w) os Lw fw (AA L0 s.heap.size) s.heap H1 locs1 → W p l e R s m args below meth c H1 locs1 (cells + 4) (slots + 24) Q (F0 m (pc + 3) ls (.int ((oc.vs u).2.2.1 - 5) :: rest))) : W p l e R s m args below meth c H locs cells slots Q (F0 m pc ls (.int (nI w) :: .int (nI u) :: .ref lo :: rest)) := by
  obtain ⟨a, Lc, fc, Ls, fs, rfl, ⟨D, h, hO⟩, hMs, hNc, hNs, hNw, dcs, dcw, dsw, hPc, hPs, hPw, hAc, hAs, hAw, hS⟩ := hW
  have hd := hok.hd
  have hnv := h.hnv
  subst hO
  have hu : u < D.nv := hu
  have hw : w < D.nv := hw
  refine tkx_V (As := [.int (nI u), .int (nI w)]) S (x_share l hst h hNc (by show D.d + 130 < 2 ^ 30; have e8 : D.d ≤ M := hd; omega) (nI u) (nI w) H.size) cw hK hZ hPc hAc hS h.L_lo h.f_lo rfl rfl hsize rfl hWr hdg hcs (fun E ce q9 H1 locs1 hx hP1 hkp hS1 h1 h2 h3 => ?_) (fun r f2 H1 locs1 hp hP1 hkp _ hS1 => ?_)
  · rcases hx with ⟨_, h1⟩ | ⟨_, _, h1⟩ | ⟨rfl, u2, w2, a1, a2, a3, a4, a5, a6⟩
    · rw [ib_ok hu (by omega), ib_ok hw (by omega)] at h1; cases h1
    · exact absurd ((nI_eq (by omega) (by omega)).mp h1) hne
    · obtain rfl : u = u2 := (nI_eq (by omega) (by omega)).mp a2
      exact kx ce q9 H1 locs1 a6 ⟨a, Lc, fc, Ls, fs, rfl, ⟨D, h, rfl⟩, hMs, hNc, hNs, hNw, dcs, dcw, dsw, hP1, hPs.kp (dj_sym dcs) hkp, hPw.kp (dj_sym dcw) hkp, hAc, hAs, hAw, hS1⟩ h1 h2 h3
  · obtain ⟨u2, w2, a1, a2, a3, a4, a5, a6, a7, hV2, hF⟩ := hp
    obtain rfl : u = u2 := (nI_eq (by omega) (by omega)).mp a2
    obtain rfl : w = w2 := (nI_eq (by omega) (by omega)).mp a4
    subst a7
    exact kk H1 locs1 a6 ⟨a, Lc, f2, Ls, fs, rfl, ⟨_, h.pvil hV2 (fun x hx => hF x (nm_c (hx u (by omega)).1 (nm_c (hx u (by omega)).2 (nm_c (hx w (by omega)).1 List.not_mem_nil)))), rfl⟩, hMs, hNc, hNs, hNw, dcs, dcw, dsw, hP1, hPs.kp (dj_sym dcs) hkp, hPw.kp (dj_sym dcw) hkp, hAc, hAs, hAw, hS1⟩
def rightO (o : OB) (j : Nat) : Int32 := rightN (o.kd j) (o.nu j) o.gl o.rn 12
def bestO (o : OB) : Int32 := (bestL (rightO o) o.n).2
theorem u_best (S : CallFix p m c cc nL s args Ts own) (hK : KK g s) (hW : WD g t lo b oc os Lw fw (AA L0 s.heap.size) s.heap H locs)
    (cw : CallW R s args own RX4 index yX4_best bytes maxL ret wsX4_best ({ frames := 4, cells := 0, slots := 0, locals := 91 }) 0 0 0)
    (hsize : ls.size = nL) (hWr : (rest.map fun v => v.category).sum ≤ 8) (hdg : decode cc pc = .ok (.invokevirtual index, 3)) (hcs : cells ≤ R.cells ∧ slots ≤ R.slots)
    (kk : W p l e R s m args below meth c H locs cells slots Q (F0 m (pc + 3) ls (.int (bestO oc) :: rest))) : W p l e R s m args below meth c H locs cells slots Q (F0 m pc ls (.ref lo :: rest)) := by
  obtain ⟨a, Lc, fc, Ls, fs, rfl, ⟨D, h, hO⟩, hMs, hNc, hNs, hNw, dcs, dcw, dsw, hPc, hPs, hPw, hAc, hAs, hAw, hS⟩ := hW
  subst hO
  refine ro_V (As := []) S (x_best l h) cw hK hPc h.L_lo h.f_lo rfl rfl hsize rfl hWr hdg hcs (fun r hr => ?_)
  subst hr
  exact kk
theorem u_mean {d0 : Drawn} (hd0 : s.drawn.sameBut d0 lw_cs) (S : CallFix p m c cc nL (s.setDrawn d0) args Ts own) (hK : KK g (s.setDrawn d0)) (hW : WD g t lo b oc os Lw fw (AA L0 s.heap.size) s.heap H locs)
    (cw : CallW R (s.setDrawn d0) args own RX4 index yX4_mean bytes maxL ret wsX4_mean ({ frames := 1, cells := 0, slots := 0, locals := 22 }) 0 0 0)
    (hsize : ls.size = nL) (hWr : (rest.map fun v => v.category).sum ≤ 8) (hdg : decode cc pc = .ok (.invokevirtual index, 3)) (hcs : cells ≤ R.cells ∧ slots ≤ R.slots)
    (kk : ∀ (r : UInt64) (H1 : Heap) (locs1 : List Loc) (d1 : Drawn), s.drawn.sameBut d1 lw_cs → meanD (sumN (fun v => (oc.vs v).2.1) oc.nv) oc.nv r → WD g t lo b oc os Lw fw (AA L0 s.heap.size) s.heap H1 locs1 → W p l e R (s.setDrawn d1) m args below meth c H1 locs1 cells slots Q (F0 m (pc + 3) ls (.double r :: rest))) : W p l e R (s.setDrawn d0) m args below meth c H locs cells slots Q (F0 m pc ls (.ref lo :: rest)) := by
  obtain ⟨a, Lc, fc, Ls, fs, rfl, ⟨D, h, hO⟩, hMs, hNc, hNs, hNw, dcs, dcw, dsw, hPc, hPs, hPw, hAc, hAs, hAw, hS⟩ := hW
  subst hO
  refine rdk_V (As := []) hd0 S (x_mean l H.size h hNc) cw hK hPc hAc hS h.L_lo h.f_lo rfl rfl hsize rfl hWr hdg hcs (fun r f2 H1 locs1 d1 hd1 hr hP1 hkp hS1 => ?_)
  obtain ⟨hr, rfl⟩ := hr
  exact kk r H1 locs1 d1 hd1 hr ⟨a, Lc, f2, Ls, fs, rfl, ⟨D, h, rfl⟩, hMs, hNc, hNs, hNw, dcs, dcw, dsw, hP1, hPs.kp (dj_sym dcs) hkp, hPw.kp (dj_sym dcw) hkp, hAc, hAs, hAw, hS1⟩
end UV
