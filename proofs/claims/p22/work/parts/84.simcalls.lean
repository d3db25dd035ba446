/-! ===== the league by hand, asked ===== -/
section US
variable {p : Program} {l : Launch} {e : Env} {R : Room} {s : State} {m : MethodId} {args : Array Value} {below : List Frame} {meth : Method} {c : Code} {H : Heap} {locs : List Loc} {cells slots : Nat} {Q : State → Prop}
variable {cc : ByteArray} {pc : Nat} {ls : Array Slot} {rest st0 : List Value} {g : GG} {L L0 Lw : List Nat} {f fw : Nat → va_E} {t lo bb : Nat} {b : SmA} {oc os : OB} {Ts ws : List Cond} {own C : String} {y : MethodName} {bytes : ByteArray} {maxL nL n index fr lc mc ms M : Nat} {ret : Option FieldType} {As : List Value}
theorem lead_O {o : OB} (h : o.n ≤ 8) (v : Nat) : leadN (fun j => truth (sayB (o.kd j) (o.nu j) o.gl o.rn o.d)) (o.vs v).2.2.2.2 o.n = aboutO o v 6 := (lead_8 (d := o.d) (w := (o.vs v).2.2.2.2) h).symm
theorem u_sright (S : CallFix p m c cc nL s args Ts own) (hK : KK g s) (hW : WD g t lo b oc os Lw fw (AA L0 s.heap.size) s.heap H locs) (hok : OkO M os) (hMb : M < 2 ^ 29) {j : Nat} (hj : j < os.n)
    (cw : CallW R s args own RX5 index yX5_right bytes maxL ret wsX5_right ({ frames := 1, cells := 0, slots := 0, locals := 26 }) 0 0 1)
    (hsize : ls.size = nL) (hWr : (rest.map fun v => v.category).sum ≤ 8) (hdg : decode cc pc = .ok (.invokevirtual index, 3)) (hcs : cells ≤ R.cells ∧ slots ≤ R.slots)
    (kk : W p l e R s m args below meth c H locs cells slots Q (F0 m (pc + 3) ls (.int (rightO os j) :: rest))) : W p l e R s m args below meth c H locs cells slots Q (F0 m pc ls (.int (nI j) :: .ref b.sm :: rest)) := by
  obtain ⟨Ls, fs, h, hP⟩ := hW.sim
  have hd := hok.hd
  refine ro_V (As := [.int (nI j)]) S (m_X5_right l g Ls fs b.sm b.sg b.sr b.ss b.sv b.sw os.d os.n b.fs os.gl os.rn os.kd os.nu j h.L_sm h.f_sm h.L_sg h.f_sg h.L_sr h.f_sr h.L_ss h.f_ss hok.hn hok.hrn hok.hnu hok.hgl h.hSR hj) cw hK hP h.L_sm h.f_sm rfl rfl hsize rfl hWr hdg hcs (fun r hr => ?_)
  have hr : r = _ := hr
  subst hr
  exact kk
theorem u_ssays (S : CallFix p m c cc nL s args Ts own) (hK : KK g s) (hW : WD g t lo b oc os Lw fw (AA L0 s.heap.size) s.heap H locs) (hok : OkO M os) (hMb : M < 2 ^ 29) {j d : Nat} (hj : j < os.n) (hdd : d < 2 ^ 30)
    (cw : CallW R s args own RX5 index yX5_says bytes maxL ret wsX5_says ({ frames := 0, cells := 0, slots := 0, locals := 0 }) 0 0 2)
    (hsize : ls.size = nL) (hWr : (rest.map fun v => v.category).sum ≤ 8) (hdg : decode cc pc = .ok (.invokevirtual index, 3)) (hcs : cells ≤ R.cells ∧ slots ≤ R.slots)
    (kk : W p l e R s m args below meth c H locs cells slots Q (F0 m (pc + 3) ls (.int (b2i (sayB (os.kd j) (os.nu j) os.gl os.rn d)) :: rest))) : W p l e R s m args below meth c H locs cells slots Q (F0 m pc ls (.int (nI d) :: .int (nI j) :: .ref b.sm :: rest)) := by
  obtain ⟨Ls, fs, h, hP⟩ := hW.sim
  have hd := hok.hd
  refine ro_V (As := [.int (nI j), .int (nI d)]) S (m_X5_says l g Ls fs b.sm b.sg b.sr b.ss b.sv b.sw os.d os.n b.fs os.gl os.rn os.kd os.nu j d h.L_sm h.f_sm h.L_sg h.f_sg h.L_sr h.f_sr h.L_ss h.f_ss hok.hn hok.hrn hok.hnu hok.hgl h.hSR hj hdd) cw hK hP h.L_sm h.f_sm rfl rfl hsize rfl hWr hdg hcs (fun r hr => ?_)
  have hr : r = _ := hr
  subst hr
  exact kk
theorem u_slean (S : CallFix p m c cc nL s args Ts own) (hK : KK g s) (hW : WD g t lo b oc os Lw fw (AA L0 s.heap.size) s.heap H locs) (hok : OkO M os) (hMb : M < 2 ^ 29) {v : Nat} (hv : v < os.nv)
    (cw : CallW R s args own RX5 index yX5_lean bytes maxL ret wsX5_lean ({ frames := 1, cells := 0, slots := 0, locals := 26 }) 0 0 1)
    (hsize : ls.size = nL) (hWr : (rest.map fun v => v.category).sum ≤ 8) (hdg : decode cc pc = .ok (.invokevirtual index, 3)) (hcs : cells ≤ R.cells ∧ slots ≤ R.slots)
    (kk : W p l e R s m args below meth c H locs cells slots Q (F0 m (pc + 3) ls (.int (aboutO os v 6) :: rest))) : W p l e R s m args below meth c H locs cells slots Q (F0 m pc ls (.int (nI v) :: .ref b.sm :: rest)) := by
  obtain ⟨Ls, fs, h, hP⟩ := hW.sim
  have hd := hok.hd
  refine ro_V (As := [.int (nI v)]) S (m_X5_lean l g Ls fs b.sm b.sg b.sr b.ss b.sv b.sw os.d os.n os.nv b.fs b.fw os.gl os.rn os.kd os.nu os.vs v h.L_sm h.f_sm h.L_sg h.f_sg h.L_sr h.f_sr h.L_ss h.f_ss h.L_sw h.f_sw hok.hn hok.hrn hok.hnu hok.hgl h.hSR h.hWR (by omega) hv hok.hnv) cw hK hP h.L_sm h.f_sm rfl rfl hsize rfl hWr hdg hcs (fun r hr => ?_)
  have hr : r = _ := hr
  subst hr
  rw [← lead_O hok.hn v] at kk
  exact kk
theorem u_splace (S : CallFix p m c cc nL s args Ts own) (hK : KK g s) (hW : WD g t lo b oc os Lw fw (AA L0 s.heap.size) s.heap H locs) (hok : OkO M os) (hMb : M < 2 ^ 29) {v : Nat} (hv : v < os.nv)
    (cw : CallW R s args own RX5 index yX5_place bytes maxL ret wsX5_place ({ frames := 1, cells := 0, slots := 0, locals := 24 }) 0 0 1)
    (hsize : ls.size = nL) (hWr : (rest.map fun v => v.category).sum ≤ 8) (hdg : decode cc pc = .ok (.invokevirtual index, 3)) (hcs : cells ≤ R.cells ∧ slots ≤ R.slots)
    (kk : W p l e R s m args below meth c H locs cells slots Q (F0 m (pc + 3) ls (.int (placeV os.vs os.nv (os.vs v)) :: rest))) : W p l e R s m args below meth c H locs cells slots Q (F0 m pc ls (.int (nI v) :: .ref b.sm :: rest)) := by
  obtain ⟨Ls, fs, h, hP⟩ := hW.sim
  have hd := hok.hd
  refine ro_V (As := [.int (nI v)]) S (m_X5_place l g Ls fs b.sm b.sg b.sr b.ss b.sv b.sw os.d os.nv b.fv os.vs v h.L_sm h.f_sm h.L_sv h.f_sv h.hVR hv hok.hnv) cw hK hP h.L_sm h.f_sm rfl rfl hsize rfl hWr hdg hcs (fun r hr => ?_)
  have hr : r = _ := hr
  subst hr
  have hnv := hok.hnv
  have e9 : sumN (fun u => b2i (aheadB (os.vs u).2.1 (os.vs u).2.2.1 (nI u) (os.vs v).2.1 (os.vs v).2.2.1 (nI v))) os.nv = sumN (fun u => b2i (aheadV (os.vs u) (os.vs v))) os.nv := sumN_cg (fun u hu => by
    show _ = b2i (aheadB (os.vs u).2.1 (os.vs u).2.2.1 (os.vs u).1 (os.vs v).2.1 (os.vs v).2.2.1 (os.vs v).1)
    rw [(hok.hV u (by omega)).1, (hok.hV v (by omega)).1])
  rw [show placeV os.vs os.nv (os.vs v) = 1 + sumN (fun u => b2i (aheadV (os.vs u) (os.vs v))) os.nv from rfl, ← e9] at kk
  exact kk
theorem cnt_O {o : OB} (h : o.n ≤ 8) : ∀ i, i < 7 → cntA (nI o.d) (nI o.n) (nI o.nv) (sumN (fun v => (o.vs v).2.1) o.nv) (sumN (fun v => (o.vs v).2.2.1) o.nv) (sumN (fun v => b2i (decide (0 < leadN (fun j => truth (sayB (o.kd j) (o.nu j) o.gl o.rn o.d)) (o.vs v).2.2.2.2 o.n))) o.nv) (sumN o.rn 12) i = countO o i := fun i hi => by
  rcases (show i = 0 ∨ i = 1 ∨ i = 2 ∨ i = 3 ∨ i = 4 ∨ i = 5 ∨ i = 6 by omega) with rfl | rfl | rfl | rfl | rfl | rfl | rfl
  · rfl
  · rfl
  · rfl
  · rfl
  · rfl
  · show sumN _ o.nv = sumN (fun v => b2i (decide (0 < leadN (sgO o o.d) (o.vs v).2.2.2.2 8))) o.nv
    exact sumN_cg (fun v hv => by rw [lead_8 h])
  · rfl
theorem u_counts (S : CallFix p m c cc nL s args Ts own) (hK : KK g s) (hDS : DS t L0 s.heap.size s) (hW : WD g t lo b oc os [] fw (AA L0 s.heap.size) s.heap H locs) (hok : OkO M os) (hMb : M < 2 ^ 29)
    (cw : CallW R s args own RX5 index yX5_counts bytes maxL ret wsX5_counts ({ frames := 2, cells := 1, slots := 60, locals := 49 }) 1 60 0)
    (hsize : ls.size = nL) (hWr : (rest.map fun v => v.category).sum ≤ 8) (hdg : decode cc pc = .ok (.invokevirtual index, 3)) (hcs : cells + 1 ≤ R.cells ∧ slots + 60 ≤ R.slots)
    (kk : ∀ (q : Nat) (z : Nat → Int32) (H1 : Heap) (locs1 : List Loc), (∀ i, i < 7 → z i = countO os i) → WD g t lo b oc os [q] (fun _ => eI g 7 z) (AA L0 s.heap.size) s.heap H1 locs1 → W p l e R s m args below meth c H1 locs1 (cells + 1) (slots + 60) Q (F0 m (pc + 3) ls (.ref q :: rest))) : W p l e R s m args below meth c H locs cells slots Q (F0 m pc ls (.ref b.sm :: rest)) := by
  obtain ⟨a, Lc, fc, Ls, fs, hlo, hY, h, hNc, hNs, hNw, dcs, dcw, dsw, hPc, hPs, hPw, hAc, hAs, hAw, hS⟩ := hW
  have hd := hok.hd
  refine ark_V (As := []) S (m_X5_counts l g Ls fs H.size hNs t b.sm b.sg b.sr b.ss b.sv b.sw os.d os.n os.nv b.fs b.fv b.fw os.gl os.rn os.kd os.nu os.vs h.L_sm h.f_sm h.L_sg h.f_sg h.L_sr h.f_sr h.L_ss h.f_ss h.L_sv h.f_sv h.L_sw h.f_sw hok.hn hok.hnv hok.hrn hok.hnu hok.hgl h.hSR h.hVR h.hWR (by omega)) cw hK hDS hPs hAs hS h.L_sm h.f_sm rfl rfl hsize rfl hWr hdg hcs (fun q L2 f2 H1 locs1 hG hp hP2 hkp hS1 => ?_)
  obtain ⟨hq1, hq2, hfq, hF⟩ := hp
  have hPs2 : PP g Ls fs H1 := PP.of (fun x hx => by
    have h9 := hP2.at (hG.2.1 x hx)
    rw [hF x hx List.not_mem_nil] at h9
    exact h9)
  have hcl := dj_gr (dj_sym dcs) hG.2.2 hPc
  refine kk q _ H1 locs1 (cnt_O hok.hn) ⟨a, Lc, fc, Ls, fs, hlo, hY, h, hNc, hNs, List.nodup_cons.mpr ⟨List.not_mem_nil, List.nodup_nil⟩, dcs, fun x hx z => ?_, fun x hx z => ?_, hPc.kp dcs hkp, hPs2, PP.of (fun x hx => ?_), hAc, hAs, fun x hx => ?_, hS1⟩
  · rw [List.mem_singleton.mp z] at hx; exact hcl q hq2 hx
  · rw [List.mem_singleton.mp z] at hx; exact hq1 hx
  · rw [List.mem_singleton.mp hx]
    have h9 := hP2.at hq2
    rw [hfq] at h9
    exact h9
  · rw [List.mem_singleton.mp hx]; exact AA_up hAs hS q (hG.2.2 q hq2)
end US
