/-! ===== a row more for the league by hand ===== -/
theorem RowsB.push {g : GG} {L : List Nat} {f : Nat → va_E} {m n : Nat} {fa : Nat → Nat} {h h2 : Nat → Nat → Int32} (k : RowsB g L f m n fa h) {q : Nat} (hq : q ∈ L) {w : Nat → Int32} (hf : f q = eI g m w) (e : ∀ i, i < m → w i = h2 n i) (e2 : ∀ j, j < n → ∀ i, i < m → h j i = h2 j i) : RowsB g L f m (n + 1) (pushN fa n q) h2 := fun j hj => by
  unfold pushN
  by_cases c : j = n
  · rw [if_pos c]
    subst c
    exact ⟨hq, w, hf, e⟩
  · rw [if_neg c]
    obtain ⟨a1, z, a2, a3⟩ := k j (by omega)
    exact ⟨a1, z, a2, fun i hi => (a3 i hi).trans (e2 j (by omega) i hi)⟩
theorem Inj.push {n : Nat} {fa : Nat → Nat} (h : Inj n fa) {q : Nat} (hq : ∀ j, j < n → fa j ≠ q) : Inj (n + 1) (pushN fa n q) := fun u v hu hv hne => by
  unfold pushN
  by_cases c : u = n
  · by_cases d : v = n
    · exact absurd (c.trans d.symm) hne
    · rw [if_pos c, if_neg d]; exact (hq v (by omega)).symm
  · by_cases d : v = n
    · rw [if_neg c, if_pos d]; exact hq u (by omega)
    · rw [if_neg c, if_neg d]; exact h u v (by omega) (by omega) hne
section UM
variable {p : Program} {l : Launch} {e : Env} {R : Room} {s : State} {m : MethodId} {args : Array Value} {below : List Frame} {meth : Method} {c : Code} {H : Heap} {locs : List Loc} {cells slots : Nat} {Q : State → Prop}
variable {cc : ByteArray} {pc : Nat} {ls : Array Slot} {rest st0 : List Value} {g : GG} {L L0 Lw : List Nat} {f fw : Nat → va_E} {t lo bb kv kw : Nat} {b : SmA} {oc os : OB} {Ts ws : List Cond} {own C : String} {y : MethodName} {bytes : ByteArray} {maxL nL n index fr lc mc ms M : Nat} {ret : Option FieldType} {As : List Value}
theorem ark_S (S : CallFix p m c cc nL s args Ts own) {post : Nat → List Nat → (Nat → va_E) → Prop} (hM : AR l g y ws fr lc mc ms t L f H.size As post) (cw : CallB R s args own index y bytes maxL ret ws ({ frames := fr, cells := mc, slots := ms, locals := lc }) mc ms n ∧ (Cond.static y).before args s = true) (hK : KK g s) (hDS : DS t L0 s.heap.size s) (hP : PP g L f H) (hA : ∀ a ∈ L, AA L0 s.heap.size a) (hS : va_S (AA L0 s.heap.size) s.heap H locs)
    (hn : As.length = n) (hsize : ls.size = nL) (hstack : st0 = As.reverse ++ rest) (hW : (rest.map fun v => v.category).sum ≤ 8) (hdg : decode cc pc = .ok (.invokestatic index, 3)) (hcs : cells + mc ≤ R.cells ∧ slots + ms ≤ R.slots)
    (kk : ∀ (r : Nat) (L2 : List Nat) (f2 : Nat → va_E) (H1 : Heap) (locs1 : List Loc), GR L L2 H.size → post r L2 f2 → PP g L2 f2 H1 → Kp L H H1 → va_S (AA L0 s.heap.size) s.heap H1 locs1 → W p l e R s m args below meth c H1 locs1 (cells + mc) (slots + ms) Q (F0 m (pc + 3) ls (.ref r :: rest))) : W p l e R s m args below meth c H locs cells slots Q (F0 m pc ls st0) :=
  va_callr (va_runS S hM cw ⟨dp_blind, fun U hU hW => ⟨rfl, by rw [hU], by rw [hU]; exact hP, KK.warm hW hK, DS.step hDS hS hU hW hA⟩⟩ rfl hn hsize hstack (lv_room hW) hdg hcs) hS (AA_old hA) (AA_free hA (fun _ h => Or.inr h) hS) (fun u ra T H1 locs1 ht _ hw hB _ hk hS1 => by obtain ⟨rfl, hB⟩ := hB; exact kk u.1 u.2.1 u.2.2 H1 locs1 hw.1 hw.2 (by rw [← ht]; exact hB) (Kp.of hk) hS1)
theorem ark_V (S : CallFix p m c cc nL s args Ts own) {post : Nat → List Nat → (Nat → va_E) → Prop} (hM : AR l g y ws fr lc mc ms t L f H.size (.ref bb :: As) post) (cw : CallW R s args own C index y bytes maxL ret ws ({ frames := fr, cells := mc, slots := ms, locals := lc }) mc ms n) (hK : KK g s) (hDS : DS t L0 s.heap.size s) (hP : PP g L f H) (hA : ∀ a ∈ L, AA L0 s.heap.size a) (hS : va_S (AA L0 s.heap.size) s.heap H locs) (hL : bb ∈ L) {ci : Nat} {fs : List Value} {T : u_T} {N : Nat} (hf : f bb = .inr (ci, fs)) (hc : vwCl[ci]? = some (C, T, N))
    (hn : As.length = n) (hsize : ls.size = nL) (hstack : st0 = As.reverse ++ .ref bb :: rest) (hW : (rest.map fun v => v.category).sum ≤ 8) (hdg : decode cc pc = .ok (.invokevirtual index, 3)) (hcs : cells + mc ≤ R.cells ∧ slots + ms ≤ R.slots)
    (kk : ∀ (r : Nat) (L2 : List Nat) (f2 : Nat → va_E) (H1 : Heap) (locs1 : List Loc), GR L L2 H.size → post r L2 f2 → PP g L2 f2 H1 → Kp L H H1 → va_S (AA L0 s.heap.size) s.heap H1 locs1 → W p l e R s m args below meth c H1 locs1 (cells + mc) (slots + ms) Q (F0 m (pc + 3) ls (.ref r :: rest))) : W p l e R s m args below meth c H locs cells slots Q (F0 m pc ls st0) :=
  va_callr (va_runV S hM cw ⟨dp_blind, pg_recv hK hP hL hf hc, fun U hU hW => ⟨rfl, by rw [hU], by rw [hU]; exact hP, KK.warm hW hK, DS.step hDS hS hU hW hA⟩⟩ rfl hn hsize hstack (lv_room hW) hdg hcs) hS (AA_old hA) (AA_free hA (fun _ h => Or.inr h) hS) (fun u ra T H1 locs1 ht _ hw hB _ hk hS1 => by obtain ⟨rfl, hB⟩ := hB; exact kk u.1 u.2.1 u.2.2 H1 locs1 hw.1 hw.2 (by rw [← ht]; exact hB) (Kp.of hk) hS1)
set_option maxHeartbeats 4000000 in
theorem u_more_signs (S : CallFix p m c cc nL s args Ts own) (hx : p.tables.exec = Jvm.exec) (hb : c.code = cc) (hts : ∀ w ∈ Ts, w.before args s = true) (hin : ∀ w ∈ u_ws RX5 TX5 6, w ∈ Ts) (hown : s.vm.findClass own = some m.cls) (hK : KK g s) (hDS : DS t L0 s.heap.size s) {q k : Nat} {w : Nat → Int32} (hW : WDG g t lo b oc os kv kw [q] fw (AA L0 s.heap.size) s.heap H locs) (hq : fw q = eI g 2 w) (hn8 : os.n < 8) 
    (cw : CallB R s args own index yX5_more bytes maxL ret wsX5_more ({ frames := 0, cells := 1, slots := 60, locals := 0 }) 1 60 2 ∧ (Cond.static yX5_more).before args s = true) {link : Nat} (hlink : (Cond.fieldLink own link "BarometerLeagueLaw$Sim" "signs" "[[I").before args s = true)
    (hsize : ls.size = nL) (hWr : (rest.map fun v => v.category).sum ≤ 7) (hdg : decode cc pc = .ok (.invokestatic index, 3)) (hdg2 : decode cc (pc + 3) = .ok (.putfield link, 3)) (hcs : cells + 1 ≤ R.cells ∧ slots + 60 ≤ R.slots)
    (kk : ∀ (b2 : SmA) (H1 : Heap) (locs1 : List Loc), b2.sm = b.sm → WDG g t lo b2 oc ((os.d, os.n + 1, os.nv, os.gl, os.rn, upd os.kd os.n (w 0), upd os.nu os.n (w 1), os.vs) : OB) kv kw [] (fun _ => eO 0 []) (AA L0 s.heap.size) s.heap H1 locs1 → W p l e R s m args below meth c H1 locs1 (cells + 1) (slots + 60) Q (F0 m (pc + 3 + 3) ls rest)) : W p l e R s m args below meth c H locs cells slots Q (F0 m pc ls (.ref q :: .ref b.ss :: .ref b.sm :: rest)) := by
  obtain ⟨a, Lc, fc, Ls, fs, hlo, hY, h, hNc, hNs, hNw, dcs, dcw, dsw, hPc, hPs, hPw, hAc, hAs, hAw, hS⟩ := hW
  obtain ⟨L_sm, f_sm, L_sg, f_sg, L_sr, f_sr, L_ss, f_ss, L_sv, f_sv, L_sw, f_sw, hSR, hVR, hWR, hIv, hIw, hgr⟩ := id h
  have hq1 : q ∉ Ls := fun z => dsw q z (by simp)
  have hq2 : q ∉ Lc := fun z => dcw q z (by simp)
  have hP1 : PP g (q :: Ls) (va_up fs q (eI g 2 w)) H := PP.of (fun x hx => by
    rcases List.mem_cons.mp hx with rfl | hx
    · rw [va_up_self, ← hq]; exact hPw.at (by simp)
    · rw [va_up_ne _ _ (fun z => hq1 (by rw [← z]; exact hx))]; exact hPs.at hx)
  have hN1 : (q :: Ls).Nodup := List.nodup_cons.mpr ⟨hq1, hNs⟩
  have o1 : ∀ x ∈ Ls, va_up fs q (eI g 2 w) x = fs x := fun x hx => va_up_ne _ _ (fun z => hq1 (by rw [← z]; exact hx))
  have s1 : ∀ x ∈ Ls, x ∈ q :: Ls := fun _ hx => List.mem_cons_of_mem _ hx
  have dc1 : ∀ x ∈ q :: Ls, x ∉ Lc := fun x hx z => (List.mem_cons.mp hx).elim (fun e9 => hq2 (e9 ▸ z)) (fun k9 => dcs x z k9)
  refine ark_S (As := [.ref b.ss, .ref q]) S (m_X5_more l g (q :: Ls) (va_up fs q (eI g 2 w)) H.size hN1 t b.ss q os.n 2 2 b.fs w _ (s1 _ L_ss) ((o1 _ L_ss).trans f_ss) List.mem_cons_self (va_up_self _ _ _) (by omega) (hSR.grow s1 o1)) cw hK hDS hP1 (fa_c (hAw q (by simp)) hAs) hS rfl hsize rfl (by show 1 + (rest.map fun v => v.category).sum ≤ 8; omega) hdg hcs (fun x L2 f2 H1 locs1 hG hp hP2 hkp hS1 => ?_)
  obtain ⟨hx1, hx2, hfx, hF⟩ := hp
  have s2 : ∀ y ∈ Ls, y ∈ L2 := fun y hy => hG.2.1 y (s1 y hy)
  have o2 : ∀ y ∈ Ls, f2 y = fs y := fun y hy => (hF y (s1 y hy) List.not_mem_nil).trans (o1 y hy)
  have hfq : f2 q = eI g 2 w := (hF q List.mem_cons_self List.not_mem_nil).trans (va_up_self _ _ _)
  have hPc1 := hPc.kp (dj_sym dc1) hkp
  have hA2 : ∀ y ∈ L2, AA L0 s.heap.size y := fun y hy => AA_up (fa_c (hAw q (by simp)) hAs) hS y (hG.2.2 y hy)
  have dc2 : ∀ y ∈ L2, y ∉ Lc := dj_gr dc1 hG.2.2 hPc
  refine pg_put (ty := (.array (.array .int))) (C := RX5) (T := TX5) (N := 6) hx hb hts hin tyX5 tyX5_ok nmX5 hown hK (hP2.join hPc1 dc2) (nd_app hG.1 hNc dc2) (al_app hA2 hAc) hS1 (List.mem_append.mpr (Or.inl (s2 _ L_sm))) ((jn_in (s2 _ L_sm)).trans ((o2 _ L_sm).trans f_sm)) rfl 3 (by decide) hlink (fun _ h9 => h9) rfl (by decide +kernel) rfl rfl (Nat.le_of_ble_eq_true rfl) hdg2 (fun H3 locs3 hP3 hS3 => ?_)
  obtain ⟨hP4, hPc4⟩ := hP3.spl_up dc2 (s2 _ L_sm)
  obtain ⟨f4, ef4⟩ : ∃ z, z = va_up f2 b.sm (eO 6 [.int (nI os.d), .ref b.sg, .ref b.sr, .ref x, .ref b.sv, .ref b.sw]) := ⟨_, rfl⟩
  have hP4 : PP g L2 f4 H3 := by rw [ef4]; exact hP4
  have hF4 : Fr f2 f4 [b.sm] := by rw [ef4]; exact Fr.rf.up (by simp)
  have hsm2 := (o2 _ L_sm).trans f_sm
  have nsm : ∀ {y : Nat} {e9 : va_E}, f2 y = e9 → (∀ v9, e9 ≠ eO 6 v9) → y ∉ [b.sm] := fun {y e9} hy h9 => nm_c (ne_e hy hsm2 (h9 _)) List.not_mem_nil
  have f4_sm : f4 b.sm = eO 6 [.int (nI os.d), .ref b.sg, .ref b.sr, .ref x, .ref b.sv, .ref b.sw] := by rw [ef4]; exact va_up_self _ _ _
  have f4_sg := hF4.get ((o2 _ L_sg).trans f_sg) (nsm ((o2 _ L_sg).trans f_sg) (by simp))
  have f4_sr := hF4.get ((o2 _ L_sr).trans f_sr) (nsm ((o2 _ L_sr).trans f_sr) (by simp))
  have f4_ss := hF4.get ((o2 _ L_ss).trans f_ss) (nsm ((o2 _ L_ss).trans f_ss) (by simp))
  have f4_sv := hF4.get ((o2 _ L_sv).trans f_sv) (nsm ((o2 _ L_sv).trans f_sv) (by simp))
  have f4_sw := hF4.get ((o2 _ L_sw).trans f_sw) (nsm ((o2 _ L_sw).trans f_sw) (by simp))
  have f4_x := hF4.get hfx (nsm hfx (by simp))
  have f4_q := hF4.get hfq (nsm hfq (by simp))
  have R1 := (hSR.grow s2 o2).fr hF4 (fun z => by rw [hsm2]; simp)
  have R2 := (hVR.grow s2 o2).fr hF4 (fun z => by rw [hsm2]; simp)
  have R3 := (hWR.grow s2 o2).fr hF4 (fun z => by rw [hsm2]; simp)
  have hq3 : q ∈ L2 := hG.2.1 q List.mem_cons_self
  exact kk ((b.sm, b.sg, b.sr, x, b.sv, b.sw, pushN b.fs os.n q, b.fv, b.fw) : SmA) H3 locs3 rfl ⟨a, Lc, fc, L2, f4, hlo, hY, ⟨s2 _ L_sm, f4_sm, s2 _ L_sg, f4_sg, s2 _ L_sr, f4_sr, hx2, f4_x, s2 _ L_sv, f4_sv, s2 _ L_sw, f4_sw, R1.push hq3 f4_q (fun i hi => by rcases (show i = 0 ∨ i = 1 by omega) with rfl | rfl; exact pk_us.symm; exact pk_us.symm) (fun j hj i hi => by rcases (show i = 0 ∨ i = 1 by omega) with rfl | rfl; exact (show os.kd j = upd os.kd os.n (w 0) j from (pk_un (show j ≠ os.n by omega)).symm); exact (show os.nu j = upd os.nu os.n (w 1) j from (pk_un (show j ≠ os.n by omega)).symm)), R2, R3, hIv, hIw, hgr⟩, hNc, hG.1, List.nodup_nil, dj_sym dc2, fun _ _ => List.not_mem_nil, fun _ _ => List.not_mem_nil, hPc4, hP4, PP.of (fun b hb => absurd hb List.not_mem_nil), hAc, hA2, fun _ h => absurd h List.not_mem_nil, hS3⟩
set_option maxHeartbeats 4000000 in
theorem u_more_villages (S : CallFix p m c cc nL s args Ts own) (hx : p.tables.exec = Jvm.exec) (hb : c.code = cc) (hts : ∀ w ∈ Ts, w.before args s = true) (hin : ∀ w ∈ u_ws RX5 TX5 6, w ∈ Ts) (hown : s.vm.findClass own = some m.cls) (hK : KK g s) (hDS : DS t L0 s.heap.size s) {q k : Nat} {w : Nat → Int32} (hW : WDG g t lo b oc os kv kw [q] fw (AA L0 s.heap.size) s.heap H locs) (hq : fw q = eI g 3 w) (hn8 : kv < 8) (hw : ∀ i, i < 3 → w i = vr3 (os.vs kv) i)
    (cw : CallB R s args own index yX5_more bytes maxL ret wsX5_more ({ frames := 0, cells := 1, slots := 60, locals := 0 }) 1 60 2 ∧ (Cond.static yX5_more).before args s = true) {link : Nat} (hlink : (Cond.fieldLink own link "BarometerLeagueLaw$Sim" "villages" "[[I").before args s = true)
    (hsize : ls.size = nL) (hWr : (rest.map fun v => v.category).sum ≤ 7) (hdg : decode cc pc = .ok (.invokestatic index, 3)) (hdg2 : decode cc (pc + 3) = .ok (.putfield link, 3)) (hcs : cells + 1 ≤ R.cells ∧ slots + 60 ≤ R.slots)
    (kk : ∀ (b2 : SmA) (H1 : Heap) (locs1 : List Loc), b2.sm = b.sm → WDG g t lo b2 oc os (kv + 1) kw [] (fun _ => eO 0 []) (AA L0 s.heap.size) s.heap H1 locs1 → W p l e R s m args below meth c H1 locs1 (cells + 1) (slots + 60) Q (F0 m (pc + 3 + 3) ls rest)) : W p l e R s m args below meth c H locs cells slots Q (F0 m pc ls (.ref q :: .ref b.sv :: .ref b.sm :: rest)) := by
  obtain ⟨a, Lc, fc, Ls, fs, hlo, hY, h, hNc, hNs, hNw, dcs, dcw, dsw, hPc, hPs, hPw, hAc, hAs, hAw, hS⟩ := hW
  obtain ⟨L_sm, f_sm, L_sg, f_sg, L_sr, f_sr, L_ss, f_ss, L_sv, f_sv, L_sw, f_sw, hSR, hVR, hWR, hIv, hIw, hgr⟩ := id h
  have hq1 : q ∉ Ls := fun z => dsw q z (by simp)
  have hq2 : q ∉ Lc := fun z => dcw q z (by simp)
  have hP1 : PP g (q :: Ls) (va_up fs q (eI g 3 w)) H := PP.of (fun x hx => by
    rcases List.mem_cons.mp hx with rfl | hx
    · rw [va_up_self, ← hq]; exact hPw.at (by simp)
    · rw [va_up_ne _ _ (fun z => hq1 (by rw [← z]; exact hx))]; exact hPs.at hx)
  have hN1 : (q :: Ls).Nodup := List.nodup_cons.mpr ⟨hq1, hNs⟩
  have o1 : ∀ x ∈ Ls, va_up fs q (eI g 3 w) x = fs x := fun x hx => va_up_ne _ _ (fun z => hq1 (by rw [← z]; exact hx))
  have s1 : ∀ x ∈ Ls, x ∈ q :: Ls := fun _ hx => List.mem_cons_of_mem _ hx
  have dc1 : ∀ x ∈ q :: Ls, x ∉ Lc := fun x hx z => (List.mem_cons.mp hx).elim (fun e9 => hq2 (e9 ▸ z)) (fun k9 => dcs x z k9)
  refine ark_S (As := [.ref b.sv, .ref q]) S (m_X5_more l g (q :: Ls) (va_up fs q (eI g 3 w)) H.size hN1 t b.sv q kv 3 3 b.fv w _ (s1 _ L_sv) ((o1 _ L_sv).trans f_sv) List.mem_cons_self (va_up_self _ _ _) (by omega) (hVR.grow s1 o1)) cw hK hDS hP1 (fa_c (hAw q (by simp)) hAs) hS rfl hsize rfl (by show 1 + (rest.map fun v => v.category).sum ≤ 8; omega) hdg hcs (fun x L2 f2 H1 locs1 hG hp hP2 hkp hS1 => ?_)
  obtain ⟨hx1, hx2, hfx, hF⟩ := hp
  have s2 : ∀ y ∈ Ls, y ∈ L2 := fun y hy => hG.2.1 y (s1 y hy)
  have o2 : ∀ y ∈ Ls, f2 y = fs y := fun y hy => (hF y (s1 y hy) List.not_mem_nil).trans (o1 y hy)
  have hfq : f2 q = eI g 3 w := (hF q List.mem_cons_self List.not_mem_nil).trans (va_up_self _ _ _)
  have hPc1 := hPc.kp (dj_sym dc1) hkp
  have hA2 : ∀ y ∈ L2, AA L0 s.heap.size y := fun y hy => AA_up (fa_c (hAw q (by simp)) hAs) hS y (hG.2.2 y hy)
  have dc2 : ∀ y ∈ L2, y ∉ Lc := dj_gr dc1 hG.2.2 hPc
  refine pg_put (ty := (.array (.array .int))) (C := RX5) (T := TX5) (N := 6) hx hb hts hin tyX5 tyX5_ok nmX5 hown hK (hP2.join hPc1 dc2) (nd_app hG.1 hNc dc2) (al_app hA2 hAc) hS1 (List.mem_append.mpr (Or.inl (s2 _ L_sm))) ((jn_in (s2 _ L_sm)).trans ((o2 _ L_sm).trans f_sm)) rfl 4 (by decide) hlink (fun _ h9 => h9) rfl (by decide +kernel) rfl rfl (Nat.le_of_ble_eq_true rfl) hdg2 (fun H3 locs3 hP3 hS3 => ?_)
  obtain ⟨hP4, hPc4⟩ := hP3.spl_up dc2 (s2 _ L_sm)
  obtain ⟨f4, ef4⟩ : ∃ z, z = va_up f2 b.sm (eO 6 [.int (nI os.d), .ref b.sg, .ref b.sr, .ref b.ss, .ref x, .ref b.sw]) := ⟨_, rfl⟩
  have hP4 : PP g L2 f4 H3 := by rw [ef4]; exact hP4
  have hF4 : Fr f2 f4 [b.sm] := by rw [ef4]; exact Fr.rf.up (by simp)
  have hsm2 := (o2 _ L_sm).trans f_sm
  have nsm : ∀ {y : Nat} {e9 : va_E}, f2 y = e9 → (∀ v9, e9 ≠ eO 6 v9) → y ∉ [b.sm] := fun {y e9} hy h9 => nm_c (ne_e hy hsm2 (h9 _)) List.not_mem_nil
  have f4_sm : f4 b.sm = eO 6 [.int (nI os.d), .ref b.sg, .ref b.sr, .ref b.ss, .ref x, .ref b.sw] := by rw [ef4]; exact va_up_self _ _ _
  have f4_sg := hF4.get ((o2 _ L_sg).trans f_sg) (nsm ((o2 _ L_sg).trans f_sg) (by simp))
  have f4_sr := hF4.get ((o2 _ L_sr).trans f_sr) (nsm ((o2 _ L_sr).trans f_sr) (by simp))
  have f4_ss := hF4.get ((o2 _ L_ss).trans f_ss) (nsm ((o2 _ L_ss).trans f_ss) (by simp))
  have f4_sv := hF4.get ((o2 _ L_sv).trans f_sv) (nsm ((o2 _ L_sv).trans f_sv) (by simp))
  have f4_sw := hF4.get ((o2 _ L_sw).trans f_sw) (nsm ((o2 _ L_sw).trans f_sw) (by simp))
  have f4_x := hF4.get hfx (nsm hfx (by simp))
  have f4_q := hF4.get hfq (nsm hfq (by simp))
  have R1 := (hSR.grow s2 o2).fr hF4 (fun z => by rw [hsm2]; simp)
  have R2 := (hVR.grow s2 o2).fr hF4 (fun z => by rw [hsm2]; simp)
  have R3 := (hWR.grow s2 o2).fr hF4 (fun z => by rw [hsm2]; simp)
  have hq3 : q ∈ L2 := hG.2.1 q List.mem_cons_self
  exact kk ((b.sm, b.sg, b.sr, b.ss, x, b.sw, b.fs, pushN b.fv kv q, b.fw) : SmA) H3 locs3 rfl ⟨a, Lc, fc, L2, f4, hlo, hY, ⟨s2 _ L_sm, f4_sm, s2 _ L_sg, f4_sg, s2 _ L_sr, f4_sr, s2 _ L_ss, f4_ss, hx2, f4_x, s2 _ L_sw, f4_sw, R1, R2.push hq3 f4_q hw (fun _ _ _ _ => rfl), R3, hIv.push (fun j hj e9 => hq1 (e9 ▸ (hVR j hj).1)), hIw, hgr⟩, hNc, hG.1, List.nodup_nil, dj_sym dc2, fun _ _ => List.not_mem_nil, fun _ _ => List.not_mem_nil, hPc4, hP4, PP.of (fun b hb => absurd hb List.not_mem_nil), hAc, hA2, fun _ h => absurd h List.not_mem_nil, hS3⟩
set_option maxHeartbeats 4000000 in
theorem u_more_weights (S : CallFix p m c cc nL s args Ts own) (hx : p.tables.exec = Jvm.exec) (hb : c.code = cc) (hts : ∀ w ∈ Ts, w.before args s = true) (hin : ∀ w ∈ u_ws RX5 TX5 6, w ∈ Ts) (hown : s.vm.findClass own = some m.cls) (hK : KK g s) (hDS : DS t L0 s.heap.size s) {q k : Nat} {w : Nat → Int32} (hW : WDG g t lo b oc os kv kw [q] fw (AA L0 s.heap.size) s.heap H locs) (hq : fw q = eI g 8 w) (hn8 : kw < 8) (hw : ∀ i, i < 8 → w i = (os.vs kw).2.2.2.2 i)
    (cw : CallB R s args own index yX5_more bytes maxL ret wsX5_more ({ frames := 0, cells := 1, slots := 60, locals := 0 }) 1 60 2 ∧ (Cond.static yX5_more).before args s = true) {link : Nat} (hlink : (Cond.fieldLink own link "BarometerLeagueLaw$Sim" "weights" "[[I").before args s = true)
    (hsize : ls.size = nL) (hWr : (rest.map fun v => v.category).sum ≤ 7) (hdg : decode cc pc = .ok (.invokestatic index, 3)) (hdg2 : decode cc (pc + 3) = .ok (.putfield link, 3)) (hcs : cells + 1 ≤ R.cells ∧ slots + 60 ≤ R.slots)
    (kk : ∀ (b2 : SmA) (H1 : Heap) (locs1 : List Loc), b2.sm = b.sm → WDG g t lo b2 oc os kv (kw + 1) [] (fun _ => eO 0 []) (AA L0 s.heap.size) s.heap H1 locs1 → W p l e R s m args below meth c H1 locs1 (cells + 1) (slots + 60) Q (F0 m (pc + 3 + 3) ls rest)) : W p l e R s m args below meth c H locs cells slots Q (F0 m pc ls (.ref q :: .ref b.sw :: .ref b.sm :: rest)) := by
  obtain ⟨a, Lc, fc, Ls, fs, hlo, hY, h, hNc, hNs, hNw, dcs, dcw, dsw, hPc, hPs, hPw, hAc, hAs, hAw, hS⟩ := hW
  obtain ⟨L_sm, f_sm, L_sg, f_sg, L_sr, f_sr, L_ss, f_ss, L_sv, f_sv, L_sw, f_sw, hSR, hVR, hWR, hIv, hIw, hgr⟩ := id h
  have hq1 : q ∉ Ls := fun z => dsw q z (by simp)
  have hq2 : q ∉ Lc := fun z => dcw q z (by simp)
  have hP1 : PP g (q :: Ls) (va_up fs q (eI g 8 w)) H := PP.of (fun x hx => by
    rcases List.mem_cons.mp hx with rfl | hx
    · rw [va_up_self, ← hq]; exact hPw.at (by simp)
    · rw [va_up_ne _ _ (fun z => hq1 (by rw [← z]; exact hx))]; exact hPs.at hx)
  have hN1 : (q :: Ls).Nodup := List.nodup_cons.mpr ⟨hq1, hNs⟩
  have o1 : ∀ x ∈ Ls, va_up fs q (eI g 8 w) x = fs x := fun x hx => va_up_ne _ _ (fun z => hq1 (by rw [← z]; exact hx))
  have s1 : ∀ x ∈ Ls, x ∈ q :: Ls := fun _ hx => List.mem_cons_of_mem _ hx
  have dc1 : ∀ x ∈ q :: Ls, x ∉ Lc := fun x hx z => (List.mem_cons.mp hx).elim (fun e9 => hq2 (e9 ▸ z)) (fun k9 => dcs x z k9)
  refine ark_S (As := [.ref b.sw, .ref q]) S (m_X5_more l g (q :: Ls) (va_up fs q (eI g 8 w)) H.size hN1 t b.sw q kw 8 8 b.fw w _ (s1 _ L_sw) ((o1 _ L_sw).trans f_sw) List.mem_cons_self (va_up_self _ _ _) (by omega) (hWR.grow s1 o1)) cw hK hDS hP1 (fa_c (hAw q (by simp)) hAs) hS rfl hsize rfl (by show 1 + (rest.map fun v => v.category).sum ≤ 8; omega) hdg hcs (fun x L2 f2 H1 locs1 hG hp hP2 hkp hS1 => ?_)
  obtain ⟨hx1, hx2, hfx, hF⟩ := hp
  have s2 : ∀ y ∈ Ls, y ∈ L2 := fun y hy => hG.2.1 y (s1 y hy)
  have o2 : ∀ y ∈ Ls, f2 y = fs y := fun y hy => (hF y (s1 y hy) List.not_mem_nil).trans (o1 y hy)
  have hfq : f2 q = eI g 8 w := (hF q List.mem_cons_self List.not_mem_nil).trans (va_up_self _ _ _)
  have hPc1 := hPc.kp (dj_sym dc1) hkp
  have hA2 : ∀ y ∈ L2, AA L0 s.heap.size y := fun y hy => AA_up (fa_c (hAw q (by simp)) hAs) hS y (hG.2.2 y hy)
  have dc2 : ∀ y ∈ L2, y ∉ Lc := dj_gr dc1 hG.2.2 hPc
  refine pg_put (ty := (.array (.array .int))) (C := RX5) (T := TX5) (N := 6) hx hb hts hin tyX5 tyX5_ok nmX5 hown hK (hP2.join hPc1 dc2) (nd_app hG.1 hNc dc2) (al_app hA2 hAc) hS1 (List.mem_append.mpr (Or.inl (s2 _ L_sm))) ((jn_in (s2 _ L_sm)).trans ((o2 _ L_sm).trans f_sm)) rfl 5 (by decide) hlink (fun _ h9 => h9) rfl (by decide +kernel) rfl rfl (Nat.le_of_ble_eq_true rfl) hdg2 (fun H3 locs3 hP3 hS3 => ?_)
  obtain ⟨hP4, hPc4⟩ := hP3.spl_up dc2 (s2 _ L_sm)
  obtain ⟨f4, ef4⟩ : ∃ z, z = va_up f2 b.sm (eO 6 [.int (nI os.d), .ref b.sg, .ref b.sr, .ref b.ss, .ref b.sv, .ref x]) := ⟨_, rfl⟩
  have hP4 : PP g L2 f4 H3 := by rw [ef4]; exact hP4
  have hF4 : Fr f2 f4 [b.sm] := by rw [ef4]; exact Fr.rf.up (by simp)
  have hsm2 := (o2 _ L_sm).trans f_sm
  have nsm : ∀ {y : Nat} {e9 : va_E}, f2 y = e9 → (∀ v9, e9 ≠ eO 6 v9) → y ∉ [b.sm] := fun {y e9} hy h9 => nm_c (ne_e hy hsm2 (h9 _)) List.not_mem_nil
  have f4_sm : f4 b.sm = eO 6 [.int (nI os.d), .ref b.sg, .ref b.sr, .ref b.ss, .ref b.sv, .ref x] := by rw [ef4]; exact va_up_self _ _ _
  have f4_sg := hF4.get ((o2 _ L_sg).trans f_sg) (nsm ((o2 _ L_sg).trans f_sg) (by simp))
  have f4_sr := hF4.get ((o2 _ L_sr).trans f_sr) (nsm ((o2 _ L_sr).trans f_sr) (by simp))
  have f4_ss := hF4.get ((o2 _ L_ss).trans f_ss) (nsm ((o2 _ L_ss).trans f_ss) (by simp))
  have f4_sv := hF4.get ((o2 _ L_sv).trans f_sv) (nsm ((o2 _ L_sv).trans f_sv) (by simp))
  have f4_sw := hF4.get ((o2 _ L_sw).trans f_sw) (nsm ((o2 _ L_sw).trans f_sw) (by simp))
  have f4_x := hF4.get hfx (nsm hfx (by simp))
  have f4_q := hF4.get hfq (nsm hfq (by simp))
  have R1 := (hSR.grow s2 o2).fr hF4 (fun z => by rw [hsm2]; simp)
  have R2 := (hVR.grow s2 o2).fr hF4 (fun z => by rw [hsm2]; simp)
  have R3 := (hWR.grow s2 o2).fr hF4 (fun z => by rw [hsm2]; simp)
  have hq3 : q ∈ L2 := hG.2.1 q List.mem_cons_self
  exact kk ((b.sm, b.sg, b.sr, b.ss, b.sv, x, b.fs, b.fv, pushN b.fw kw q) : SmA) H3 locs3 rfl ⟨a, Lc, fc, L2, f4, hlo, hY, ⟨s2 _ L_sm, f4_sm, s2 _ L_sg, f4_sg, s2 _ L_sr, f4_sr, s2 _ L_ss, f4_ss, s2 _ L_sv, f4_sv, hx2, f4_x, R1, R2, R3.push hq3 f4_q hw (fun _ _ _ _ => rfl), hIv, hIw.push (fun j hj e9 => hq1 (e9 ▸ (hWR j hj).1)), hgr⟩, hNc, hG.1, List.nodup_nil, dj_sym dc2, fun _ _ => List.not_mem_nil, fun _ _ => List.not_mem_nil, hPc4, hP4, PP.of (fun b hb => absurd hb List.not_mem_nil), hAc, hA2, fun _ h => absurd h List.not_mem_nil, hS3⟩
end UM
