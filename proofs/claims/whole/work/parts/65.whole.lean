-- ===== YOUR PART BEGINS =====
/-- YOUR PART: from the entry, for every script of at most 2048 ints, the law comes to its end with true ('hflags': the launch's flags, for a law that throws: no stack traces) -/
theorem whole_start {p : Program} {e : Env} {s : State} {m : MethodId} {below : List Frame} {meth : Method} {c : Code} (l : Launch) (hflags : l.flags = flags0) {b L : Nat} {xs : Nat → Int32} (hL : L ≤ 2048) (C0 : lw_At p s m meth c b L xs) : W p l e room_1 s m #[Value.ref b] below meth c s.heap [] 0 0 (lw_Z below #[Value.ref b] s) (entryFrame m ([Value.ref b] : List Value).toArray 9) := by
  obtain ⟨hx, hb, hr, hml, hown, htb, hX, hbl, hlk, hgv⟩ := id C0
  have hts : ∀ w ∈ wsL_law, w.before #[Value.ref b] s = true := fun w hw => htb w (wsL_law_in w hw)
  have hst : l.stackTraces = false := by unfold Launch.stackTraces; rw [hflags]; decide +kernel
  obtain ⟨g, hK⟩ := st_K htb
  have hZ := st_Z htb hgv
  obtain ⟨t, hDS⟩ := st_D htb hgv
  have hNC := st_N hgv
  have hown : s.vm.findClass RL = some m.cls := hown
  have C : LC p l s m #[Value.ref b] c b L xs g t := ⟨hx, hb, hml, hown, hts, hK, hZ, hDS, hNC, hX, hbl, hst, hL⟩
  have htL : ∀ z : Nat, AA [] s.heap.size z → z ≠ t := fun z hz e9 => hDS.2.choose_spec.2.2.2.2.2.2 (e9 ▸ hz)
  have hA2 : ∀ q, s.heap.size ≤ q → AA [] s.heap.size q := fun _ h9 => Or.inr h9
  have hS : va_S (AA [] s.heap.size) s.heap s.heap [] := va_S.rf
  have hP : PP g [] (fun _ => eO 0 []) s.heap := PP.of (fun b hb => absurd hb List.not_mem_nil)
  have hA : ∀ x ∈ ([] : List Nat), AA [] s.heap.size x := fun _ h9 => Or.inl h9
  have hl := lv_entry ([.ref b]) (n := 9) (Nat.le_of_ble_eq_true rfl)
  rw [lg_entry_eq]
  generalize (lg_sl ([.ref b]) ++ List.replicate (9 - (lg_sl ([.ref b])).length) Slot.unset).toArray = ls at hl ⊢
  have hl : lv_has ls 9 [(0, .ref b)] := hl
  have hi_X4 : ∀ w ∈ u_ws RX4 TX4 6, w ∈ wsL_law := by decide +kernel
  have hi_X6 : ∀ w ∈ u_ws RX6 TX6 10, w ∈ wsL_law := by decide +kernel
  refine pg_new (ci := 5) (fs := [.null, .null, .null, .int 0, .null, .null]) (C := RX4) (T := TX4) (N := 6) hx hb hts hi_X4 tyX4 tyX4_ok hown (hts (.classLink RL 8 RX4) (by decide +kernel)) (hts (.instantiable RX4 6) (by decide +kernel)) (hts (.initialized RX4) (by decide +kernel)) hK hP List.nodup_nil hA hA2 hS rfl (fun j hj => by rcases (show j = 0 ∨ j = 1 ∨ j = 2 ∨ j = 3 ∨ j = 4 ∨ j = 5 by omega) with rfl | rfl | rfl | rfl | rfl | rfl <;> rfl) (Nat.le_of_ble_eq_true rfl) (Nat.le_of_ble_eq_true rfl) dL_law_0 (fun q0 H hn_q0 hA_q0 hP hS => ?_)
  have hA : ∀ x ∈ [q0], AA [] s.heap.size x := fa_c hA_q0 fa_n
  have hN0 : [q0].Nodup := by simp
  refine W.widen (k := 1) (n := 60) (by omega) (by omega) ?_
  refine lv_dup hx hb dL_law_3 rfl ?_
  refine av_I (As := []) (rest := [.ref q0]) ⟨hx, hb, hml, hown, hts⟩ (m_X4_init l g [q0] _ _ hN0 t q0 (by simp) (va_up_self _ _ _)) (cwI 0 hts gL_law_X4_init rfl rfl rfl (hts (.initialized RX4) (by decide +kernel)) (hts (.methodLink RL 69 yX4_init) (by decide +kernel)) (hts (.instanceMethod yX4_init) (by decide +kernel)) rfl (by decide +kernel) ⟨Nat.le_of_ble_eq_true rfl, Nat.le_of_ble_eq_true rfl⟩) hK hDS hP hA hS rfl hl.1 rfl (Nat.le_of_ble_eq_true rfl) dL_law_4 ⟨Nat.le_of_ble_eq_true rfl, Nat.le_of_ble_eq_true rfl⟩ (fun L2 f2 H locs hG2 hr2 hP hS hA => ?_)
  obtain ⟨we, ga, ra, al, rv, pa, sy, rt, tp, ad, aw, tad, taw, hal, hrr, hgr, f_lo, f_we, f_ga, f_ra, f_al, f_rv, f_pa, f_sy, f_rt, f_tp, hV, hD, hT, hDT, hXX, hsy, hsyT, n_ad, n_td, hF2⟩ := hr2
  have L_we := (hal we (List.mem_of_getElem? (i := 0) rfl)).2
  have L_ga := (hal ga (List.mem_of_getElem? (i := 1) rfl)).2
  have L_ra := (hal ra (List.mem_of_getElem? (i := 2) rfl)).2
  have L_al := (hal al (List.mem_of_getElem? (i := 3) rfl)).2
  have L_rv := (hal rv (List.mem_of_getElem? (i := 4) rfl)).2
  have L_pa := (hal pa (List.mem_of_getElem? (i := 5) rfl)).2
  have L_sy := (hal sy (List.mem_of_getElem? (i := 6) rfl)).2
  have L_rt := (hal rt (List.mem_of_getElem? (i := 7) rfl)).2
  have L_tp := (hal tp (List.mem_of_getElem? (i := 8) rfl)).2
  have L_lo : q0 ∈ L2 := hG2.2.1 q0 (by simp)
  have hB : SyB ((q0, we, ga, ra, al, rv, pa, sy, rt, tp, ad, aw, tad, taw) : LgA) [] g t L2 f2 ((0, 0, 0, t, 0, 0, mapN (fun _ _ => 30) (fun _ => 0) 12, fun _ => 0, fun _ => 0, fun _ => 0, fun _ => 0, vs0, vs0, fun _ => 0, fun _ => none) : LgD) := ⟨L_lo, f_lo, List.not_mem_nil, L_we, f_we, List.not_mem_nil, L_ga, f_ga, List.not_mem_nil, L_ra, f_ra, List.not_mem_nil, L_al, f_al, List.not_mem_nil, L_rv, f_rv, List.not_mem_nil, L_pa, f_pa, List.not_mem_nil, L_sy, f_sy, List.not_mem_nil, L_rt, f_rt, List.not_mem_nil, L_tp, f_tp, List.not_mem_nil, Nat.zero_le _, Nat.zero_le _, fun k _ => ⟨false, rfl⟩, fun j hj => absurd hj (Nat.not_lt_zero j), fun _ => rfl, hV, hD, hT, hDT, hXX, hsy, hsyT, hrr, hgr, fun _ _ => rfl, fun v hv => ⟨List.not_mem_nil, List.not_mem_nil⟩, fun v hv => ⟨List.not_mem_nil, List.not_mem_nil⟩, fun j hj => absurd hj (Nat.not_lt_zero j)⟩
  refine lv_astore_n (lv' := [(1, .ref q0), (0, .ref b)]) hx hb dL_law_7 rfl hl (by decide) rfl (fun ls hl => ?_)
  refine pg_new (ci := 7) (fs := [.int 0, .null, .null, .int 0, .null, .null, .int 0, .null, .null, .null]) (C := RX6) (T := TX6) (N := 10) hx hb hts hi_X6 tyX6 tyX6_ok hown (hts (.classLink RL 70 RX6) (by decide +kernel)) (hts (.instantiable RX6 10) (by decide +kernel)) (hts (.initialized RX6) (by decide +kernel)) hK hP hG2.1 hA hA2 hS rfl (fun j hj => by rcases (show j = 0 ∨ j = 1 ∨ j = 2 ∨ j = 3 ∨ j = 4 ∨ j = 5 ∨ j = 6 ∨ j = 7 ∨ j = 8 ∨ j = 9 by omega) with rfl | rfl | rfl | rfl | rfl | rfl | rfl | rfl | rfl | rfl <;> rfl) (Nat.le_of_ble_eq_true rfl) (Nat.le_of_ble_eq_true rfl) dL_law_8 (fun q8 H hn_q8 hA_q8 hP hS => ?_)
  have hA3 : ∀ x ∈ q8 :: L2, AA [] s.heap.size x := fa_c hA_q8 hA
  have hN3 : (q8 :: L2).Nodup := List.nodup_cons.mpr ⟨hn_q8, hG2.1⟩
  refine lv_dup hx hb dL_law_11 rfl ?_
  refine av_I (As := []) (rest := [.ref q8]) ⟨hx, hb, hml, hown, hts⟩ (m_X6_init l g (q8 :: L2) _ _ hN3 t q8 (by simp) (va_up_self _ _ _)) (cwI 0 hts gL_law_X6_init rfl rfl rfl (hts (.initialized RX6) (by decide +kernel)) (hts (.methodLink RL 72 yX6_init) (by decide +kernel)) (hts (.instanceMethod yX6_init) (by decide +kernel)) rfl (by decide +kernel) ⟨Nat.le_of_ble_eq_true rfl, Nat.le_of_ble_eq_true rfl⟩) hK hDS hP hA3 hS rfl hl.1 rfl (Nat.le_of_ble_eq_true rfl) dL_law_12 ⟨Nat.le_of_ble_eq_true rfl, Nat.le_of_ble_eq_true rfl⟩ (fun L4 f4 H locs hG4 hr4 hP hS hA => ?_)
  obtain ⟨mg, mr, mk, mn, ms, nw, np, nc, nr, nwt, ah, ap, ac, ar, awt, hnd, hal4, f_mh, f_mg, f_mr, f_mk, f_mn, f_ms, f_nw, f_np, f_nc, f_nr, f_nwt, f_ah, f_ap, f_ac, f_ar, f_awt, hF4⟩ := hr4
  have L_mg := (hal4 mg (List.mem_of_getElem? (i := 0) rfl)).2
  have L_mr := (hal4 mr (List.mem_of_getElem? (i := 1) rfl)).2
  have L_mk := (hal4 mk (List.mem_of_getElem? (i := 2) rfl)).2
  have L_mn := (hal4 mn (List.mem_of_getElem? (i := 3) rfl)).2
  have L_ms := (hal4 ms (List.mem_of_getElem? (i := 4) rfl)).2
  have L_nw := (hal4 nw (List.mem_of_getElem? (i := 5) rfl)).2
  have L_np := (hal4 np (List.mem_of_getElem? (i := 6) rfl)).2
  have L_nc := (hal4 nc (List.mem_of_getElem? (i := 7) rfl)).2
  have L_nr := (hal4 nr (List.mem_of_getElem? (i := 8) rfl)).2
  have L_nwt := (hal4 nwt (List.mem_of_getElem? (i := 9) rfl)).2
  have L_ah := (hal4 ah (List.mem_of_getElem? (i := 10) rfl)).2
  have L_ap := (hal4 ap (List.mem_of_getElem? (i := 11) rfl)).2
  have L_ac := (hal4 ac (List.mem_of_getElem? (i := 12) rfl)).2
  have L_ar := (hal4 ar (List.mem_of_getElem? (i := 13) rfl)).2
  have L_awt := (hal4 awt (List.mem_of_getElem? (i := 14) rfl)).2
  have L_mh : q8 ∈ L4 := hG4.2.1 q8 (by simp)
  refine lv_astore_n (lv' := [(2, .ref q8), (1, .ref q0), (0, .ref b)]) hx hb dL_law_15 rfl hl (by decide) rfl (fun ls hl => ?_)
  refine lv_iconst (v := 1) hx hb dL_law_16 (by decide) ?_
  refine pg_newaJ hx hb (hts (.arrayClass .long) (by decide +kernel)) hK hP hG4.1 hA hA2 hS (k := 1) rfl (by omega) (Nat.le_of_ble_eq_true rfl) (Nat.le_of_ble_eq_true rfl) dL_law_17 (fun q17 H hn_q17 hA_q17 hP hS => ?_)
  refine lv_astore_n (lv' := [(3, .ref q17), (2, .ref q8), (1, .ref q0), (0, .ref b)]) hx hb dL_law_19 rfl hl (by decide) rfl (fun ls hl => ?_)
  refine lv_iconst (v := 0) hx hb dL_law_20 (by decide) ?_
  refine lv_istore (lv' := [(4, .int 0), (3, .ref q17), (2, .ref q8), (1, .ref q0), (0, .ref b)]) hx hb dL_law_21 hl (by decide) rfl (fun ls hl => ?_)
  have hA5 : ∀ x ∈ q17 :: L4, AA [] s.heap.size x := fa_c hA_q17 hA
  have hN5 : (q17 :: L4).Nodup := List.nodup_cons.mpr ⟨hn_q17, hG4.1⟩
  have hN8 : q8 ∉ [mg, mr, mk, mn, ms, nw, np, nc, nr, nwt, ah, ap, ac, ar, awt] := fun z => (hal4 q8 z).1 (by simp)
  have hN17 : q17 ∉ [mg, mr, mk, mn, ms, nw, np, nc, nr, nwt, ah, ap, ac, ar, awt] := fun z => hn_q17 (hal4 q17 z).2
  have hne : q8 ≠ q17 := fun z => hn_q17 (z ▸ L_mh)
  have hndm : (MdA.l ((q8, mg, mr, mk, mn, ms, nw, np, nc, nr, nwt, ah, ap, ac, ar, awt, q17) : MdA)).Nodup := nd_17 hnd hN8 hN17 hne
  have hmL : ∀ x ∈ MdA.l ((q8, mg, mr, mk, mn, ms, nw, np, nc, nr, nwt, ah, ap, ac, ar, awt, q17) : MdA), x ∉ L2 := fun x hx hxL => by
    have hx2 : x ∈ q8 :: ([mg, mr, mk, mn, ms, nw, np, nc, nr, nwt, ah, ap, ac, ar, awt] ++ [q17]) := hx
    rcases List.mem_cons.mp hx2 with rfl | hx3
    · exact hn_q8 hxL
    · rcases List.mem_append.mp hx3 with hx4 | hx4
      · exact (hal4 x hx4).1 (List.mem_cons_of_mem _ hxL)
      · rw [List.mem_singleton.mp hx4] at hxL
        exact hn_q17 (hG4.2.1 _ (List.mem_cons_of_mem _ hxL))
  have hB5 := hB.grow (ml := MdA.l ((q8, mg, mr, mk, mn, ms, nw, np, nc, nr, nwt, ah, ap, ac, ar, awt, q17) : MdA)) (L2 := q17 :: L4) (f2 := va_up f4 q17 (eJ g 1 (fun _ => 0))) (fun x hx => List.mem_cons_of_mem _ (hG4.2.1 x (List.mem_cons_of_mem _ hx))) (fun x hx => by
    rw [upn (hG4.2.1 x (List.mem_cons_of_mem _ hx)) hn_q17]
    rw [hF4 x (List.mem_cons_of_mem _ hx) (nm_c (fun z : x = q8 => hn_q8 (by rw [← z]; exact hx)) List.not_mem_nil)]
    exact upn hx hn_q8) hmL
  have hM5 : MoB ((q8, mg, mr, mk, mn, ms, nw, np, nc, nr, nwt, ah, ap, ac, ar, awt, q17) : MdA) g (q17 :: L4) (va_up f4 q17 (eJ g 1 (fun _ => 0))) ((0, 0, 0, t, 0, 0, mapN (fun _ _ => 30) (fun _ => 0) 12, fun _ => 0, fun _ => 0, fun _ => 0, fun _ => 0, vs0, vs0, fun _ => 0, fun _ => none) : LgD) ((0, 0, 0, 0, fun _ => 0, fun _ => 0, mapN (fun _ _ => 10) (fun _ => 0) 6, fun _ => 0, mapN (fun _ _ => 20) (fun _ => 0) 48, fun _ => 0, fun _ => 0, fun _ => 0, fun _ => 0, fun _ => 0) : MdD) := ⟨List.mem_cons_of_mem _ L_mh, (upn L_mh hn_q17).trans f_mh, List.mem_cons_of_mem _ L_mg, (upn L_mg hn_q17).trans f_mg, List.mem_cons_of_mem _ L_mr, (upn L_mr hn_q17).trans f_mr, List.mem_cons_of_mem _ L_mk, (upn L_mk hn_q17).trans f_mk, List.mem_cons_of_mem _ L_mn, (upn L_mn hn_q17).trans f_mn, List.mem_cons_of_mem _ L_ms, (upn L_ms hn_q17).trans f_ms, List.mem_cons_of_mem _ L_nw, (upn L_nw hn_q17).trans f_nw, List.mem_cons_of_mem _ L_np, (upn L_np hn_q17).trans f_np, List.mem_cons_of_mem _ L_nc, (upn L_nc hn_q17).trans f_nc, List.mem_cons_of_mem _ L_nr, (upn L_nr hn_q17).trans f_nr, List.mem_cons_of_mem _ L_nwt, (upn L_nwt hn_q17).trans f_nwt, List.mem_cons_of_mem _ L_ah, (upn L_ah hn_q17).trans f_ah, List.mem_cons_of_mem _ L_ap, (upn L_ap hn_q17).trans f_ap, List.mem_cons_of_mem _ L_ac, (upn L_ac hn_q17).trans f_ac, List.mem_cons_of_mem _ L_ar, (upn L_ar hn_q17).trans f_ar, List.mem_cons_of_mem _ L_awt, (upn L_awt hn_q17).trans f_awt, List.mem_cons_self, va_up_self _ _ _, hndm⟩
  refine W.base ?_
  exact law_loop (a := ((q0, we, ga, ra, al, rv, pa, sy, rt, tp, ad, aw, tad, taw) : LgA)) (m := ((q8, mg, mr, mk, mn, ms, nw, np, nc, nr, nwt, ah, ap, ac, ar, awt, q17) : MdA)) C hr hlk 520 0 (by omega) (by omega) s.drawn _ _ _ _ 10 H _ ls _ _ (Drawn.sameBut.refl s.drawn lw_cs) ⟨hB5, hM5, all_0⟩ hN5 hP hA5 hS hl (by omega) (by show 0 ≤ 100 * 0; omega) (by omega) (by omega)
-- ===== YOUR PART ENDS =====
set_option maxHeartbeats 4000000 in
theorem lw_walk (l : Launch) (hflags : l.flags = flags0) (b : Addr) (xs : List Int32) : MetFree l x (headSpec (Jvm.Cond.code x code maxLocals ret :: tables_1) room_1) (lw_P b xs) (fun _ _ _ _ _ => True) lw_Q := by
  refine MetFree.of_bodyS (code := code) (maxLocals := maxLocals) (ret := ret) (by decide) ?_ ?_
  · intro args s m h hn
    obtain ⟨meth, c, h1, h2, h3, h4, h5, h6, -, -⟩ := Cond.code_spec hn (atoms_spec (ws := Jvm.Cond.code x code maxLocals ret :: tables_1) h _ List.mem_cons_self)
    exact ⟨meth, c, h1, h2, h3, h4, h5, h6⟩
  · intro p e s m args below meth c s₁ B hml0 hP _
    obtain ⟨rfl, hx, hbd, hgv⟩ := hP
    obtain ⟨scr, harrAt, hlist, hof, hsmall⟩ := hx
    obtain ⟨hcb, hkn, -, -⟩ := State.arrayAt?_spec harrAt
    have hown : s.vm.findClass R_law = some m.cls := findClass_of_methodNamed B.named
    have hts0 : ∀ c ∈ (Jvm.Cond.code x code maxLocals ret :: tables_1), c.before #[Value.ref b] s = true := atoms_spec (ws := Jvm.Cond.code x code maxLocals ret :: tables_1) B.pre
    have hts : ∀ w ∈ lw_tbl, w.before #[Value.ref b] s = true := k2_hts_sels lw_privs (fun w hw => hts0 w (List.mem_cons_of_mem _ hw)) lw_privs_ok
    have hml : c.maxLocals = 9 := B.maxLocals_eq (hts0 _ List.mem_cons_self)
    have X₀ : Stand p l e room_1 s m #[Value.ref b] below meth c s₁ [] 0 0 := Stand.of_body B
    have hh0 : s₁.heap = s.heap := by rw [B.state]; rfl
    have hsz : scr.slots.size = xs.length := by rw [← Array.length_toList, hlist, List.length_map]
    have hval : ∀ j : Nat, j < xs.length → scr.slots[j]? = some (.int (xs.getD j 0)) := fun j hj => by
      rw [← Array.getElem?_toList, hlist]
      simp [hj]
    have hbl : b < s.heap.size := (Array.getElem?_eq_some_iff.mp hcb).1
    have hX : va_X b xs.length (fun j => xs.getD j 0) s s.heap := ⟨scr, hcb, hof, hkn, hsz, hval⟩
    have K : W p l e room_1 s m #[Value.ref b] below meth c s₁.heap [] 0 0 (lw_Z below #[Value.ref b] s) (entryFrame m ([Value.ref b] : List Value).toArray 9) := by
      rw [hh0]
      exact whole_start l hflags hbd ⟨B.exec, B.bytes, B.returns, hml, hown, hts, hX, hbl, B.notSynchronized, hgv⟩
    obtain ⟨t, a1, o, b1, b2, b3⟩ := K s₁ rfl X₀
    exact ⟨t, o, a1, b1, b2, b3⟩
theorem lw_pre_spec {args : Array Value} {s : State} (h : (Jvm.Cond.and given_1 narrow_1).before args s = true) (hr : rest_1_c.before args s = true) : ∃ (b : Addr) (xs : List Int32), lw_P b xs args s := by
  have hs := flat_of_before _ h
  have hq := flat_of_before _ hr
  have hc : (Cond.count 1).before args s = true := hs _ (by decide +kernel)
  have harr : (Cond.arrayOf (.arg 0) .int).before args s = true := hs _ (by decide +kernel)
  have hle : (Cond.le (.length (.arg 0)) (.int 2048)).before args s = true := hs _ (by decide +kernel)
  have hlen : (Cond.isInt (.length (.arg 0))).before args s = true := hq _ (by decide +kernel)
  have hall : (Cond.all (.arg 0) (.isInt (.elem (.arg 0) (.index 0)))).before args s = true := hq _ (by decide +kernel)
  obtain ⟨b, xs, hb, hx⟩ := State.ints_of_pre rfl harr hlen hall
  have hsm : xs.length < 2 ^ 31 := hx.choose_spec.2.2.2
  have hev : (Term.length (.arg 0)).eval args s none [] s = some (.int xs.length.toInt32) := hx.length_eval hb
  have hv := Cond.le_ints hev (show (Term.int 2048).eval args s none [] s = some (.int 2048) from rfl)
  have hd : xs.length.toInt32 ≤ 2048 := by
    simpa [Cond.before, Cond.holds, hv] using hle
  have hN : xs.length ≤ 2048 := (Int32.ofNat_le_ofNat hsm (by decide)).mp (show Int32.ofNat xs.length ≤ Int32.ofNat 2048 from hd)
  exact ⟨b, xs, Cond.one_arg hc (show args[0]? = some (.ref b) from hb), hx, hN, h⟩
theorem lw_comes (l : Launch) (hflags : l.flags = flags0) : Comes l x (Jvm.Cond.code x code maxLocals ret :: tables_1) room_1 (fun tb e args s => Calls_1 tb e args s ∧ rest_1 tb e args s ∧ Pre_1 tb e args s)
    (fun _ _ args s o t => lw_Q args s o t) := by
  intro p e ha hc hk s m args below hf hfit hheap happ hpre
  obtain ⟨b, xs, hP⟩ := lw_pre_spec hpre.2.2 hpre.2.1
  obtain ⟨k, o, h1, h2, h3, hQ⟩ := lw_walk l hflags b xs p e ha hc hk s m args below hf ((Spec.applies_iff_loose hf).mp happ).1 hP trivial
  exact ⟨k, o, h1, h2, h3, hQ⟩
theorem lw_frame {s t : State} {o : Outcome} {args : Array Value} (h : State.butDraws s t lw_cs (fun t1 => Framed s o t1 [] 601024 7293034)) :
    State.butDraws s t [Jvm.Choice.named "NaN.bits"] (fun t1 => Framed s o t1 (fieldLocs frame_1_writes args s ++ arrayLocs frame_1_arrays args s ++ staticLocs frame_1_statics s) 601024 7293034) := h
theorem lw_limb (L : Cond) (hL : ∀ (args : Array Value) (s t : State), L.after args s (.returned (some (.int 1))) t = true) :
    ArmFor flags0 classFile x code maxLocals ret World_1 tables_1 room_1 Calls_1 rest_1 Pre_1
      (fun tb e a s o t => postC L tb e a s o t ∧ State.butDraws s t [Jvm.Choice.named "NaN.bits"] (fun t1 => Framed s o t1 (fieldLocs frame_1_writes a s ++ arrayLocs frame_1_arrays a s ++ staticLocs frame_1_statics s) 601024 7293034)) := by
  intro l hflags _ _ p e ha hc hk s m args below hf hfit hheap happ hpre
  obtain ⟨k, o, h1, h2, h3, rfl, hF⟩ := lw_comes l hflags p e ha hc hk s m args below hf hfit hheap happ hpre
  exact ⟨k, _, h1, h2, h3, hL args s _, lw_frame hF⟩
theorem i_vc : Claimed_1_1 ∧ Claimed_1_2 := ⟨lw_limb limb_1_1 (fun args s t => by simp [limb_1_1, Cond.after, Cond.holds, Cond.value]), lw_limb limb_1_2 (fun args s t => Cond.after_iff.mpr (by
  first | (rw [show limb_1_2 = Cond.eq .result (.int 1) from rfl, Cond.eq_ints (x := 1) (y := 1) rfl rfl]; simp; done) | (simp [limb_1_2, Cond.value, Term.eval]; done)))⟩
