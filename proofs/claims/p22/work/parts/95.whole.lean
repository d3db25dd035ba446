-- ===== YOUR PART BEGINS =====
set_option maxHeartbeats 4000000 in
set_option maxRecDepth 100000 in
/-- YOUR PART: from the entry, for every script of at most 260 ints, the law comes to its end with true ('hflags': the launch's flags, for a law that throws: no stack traces) -/
theorem whole_start {p : Program} {e : Env} {s : State} {m : MethodId} {below : List Frame} {meth : Method} {c : Code} (l : Launch) (hflags : l.flags = flags0) {b L : Nat} {xs : Nat → Int32} (hL : L ≤ 260) (C0 : lw_At p s m meth c b L xs) : W p l e room_1 s m #[Value.ref b] below meth c s.heap [] 0 0 (lw_Z below #[Value.ref b] s) (entryFrame m ([Value.ref b] : List Value).toArray 32) := by
  obtain ⟨hx, hb, hr, hml, hown, htb, hX, hbl, hlk, hgv⟩ := id C0
  have hts : ∀ w ∈ wsL_law, w.before #[Value.ref b] s = true := fun w hw => htb w (wsL_law_in w hw)
  have hst : l.stackTraces = false := by unfold Launch.stackTraces; rw [hflags]; decide +kernel
  obtain ⟨g, hK⟩ := st_K htb
  have hZ := st_Z htb hgv
  obtain ⟨t, hDS⟩ := st_D htb hgv
  have hown : s.vm.findClass RL = some m.cls := hown
  have C : LK p l s m #[Value.ref b] c cL_law 32 wsL_law RL g t [] := ⟨hx, hb, hml, hts, hown, hK, hZ, hDS, hst⟩
  have hA2 : ∀ q, s.heap.size ≤ q → AA [] s.heap.size q := fun _ h9 => Or.inr h9
  have hbA : ¬ AA [] s.heap.size b := fun z => z.elim (fun h9 => absurd h9 List.not_mem_nil) (fun h9 => by omega)
  have hS : va_S (AA [] s.heap.size) s.heap s.heap [] := va_S.rf
  have hP : PP g [] (fun _ => eO 0 []) s.heap := PP.of (fun b hb => absurd hb List.not_mem_nil)
  have hA : ∀ x ∈ ([] : List Nat), AA [] s.heap.size x := fun _ h9 => Or.inl h9
  have hl := lv_entry ([.ref b]) (n := 32) (Nat.le_of_ble_eq_true rfl)
  rw [lg_entry_eq]
  generalize (lg_sl ([.ref b]) ++ List.replicate (32 - (lg_sl ([.ref b])).length) Slot.unset).toArray = ls at hl ⊢
  have hl : lv_has ls 32 [(0, .ref b)] := hl
  have hi_X4 : ∀ w ∈ u_ws RX4 TX4 6, w ∈ wsL_law := by decide +kernel
  refine pg_new (ci := 5) (fs := [.null, .null, .null, .int 0, .null, .null]) (C := RX4) (T := TX4) (N := 6) hx hb hts hi_X4 tyX4 tyX4_ok hown (hts (.classLink RL 10 RX4) (by decide +kernel)) (hts (.instantiable RX4 6) (by decide +kernel)) (hts (.initialized RX4) (by decide +kernel)) hK hP List.nodup_nil hA hA2 hS rfl (fun j hj => by rcases (show j = 0 ∨ j = 1 ∨ j = 2 ∨ j = 3 ∨ j = 4 ∨ j = 5 by omega) with rfl | rfl | rfl | rfl | rfl | rfl <;> rfl) (Nat.le_of_ble_eq_true rfl) (Nat.le_of_ble_eq_true rfl) dL_law_0 (fun q0 H hn_q0 hA_q0 hP hS => ?_)
  have hA : ∀ x ∈ [q0], AA [] s.heap.size x := fa_c hA_q0 fa_n
  have hN0 : [q0].Nodup := by simp
  refine W.widen (k := 1) (n := 60) (by omega) (by omega) ?_
  refine lv_dup hx hb dL_law_3 rfl ?_
  refine av_I (As := []) (rest := [.ref q0]) ⟨hx, hb, hml, hown, hts⟩ (m_X4_init l g [q0] _ _ hN0 t q0 (by simp) (va_up_self _ _ _)) (cwI 0 hts gL_law_X4_init rfl rfl rfl (hts (.initialized RX4) (by decide +kernel)) (hts (.methodLink RL 82 yX4_init) (by decide +kernel)) (hts (.instanceMethod yX4_init) (by decide +kernel)) rfl (by decide +kernel) ⟨Nat.le_of_ble_eq_true rfl, Nat.le_of_ble_eq_true rfl⟩) hK hDS hP hA hS rfl hl.1 rfl (Nat.le_of_ble_eq_true rfl) dL_law_4 ⟨Nat.le_of_ble_eq_true rfl, Nat.le_of_ble_eq_true rfl⟩ (fun L2 f2 H locs hG2 hr2 hP hS hA => ?_)
  obtain ⟨we, ga, ra, al, rv, pa, sy, rt, tp, ad, aw, tad, taw, hal, hrr, hgr, f_lo, f_we, f_ga, f_ra, f_al, f_rv, f_pa, f_sy, f_rt, f_tp, hV, hD, hT, hDT, hXX, hsy, hsyT, n_ad, n_td, hF2⟩ := hr2
  have L_we := (hal we (List.mem_of_getElem? (i := 0) rfl)).2
  have L_ga := (hal ga (List.mem_of_getElem? (i := 1) rfl)).2
  have L_ra := (hal ra (List.mem_of_getElem? (i := 2) rfl)).2
  have L_al := (hal al (List.mem_of_getElem? (i := 3) rfl)).2
  have L_rv := (hal rv (List.mem_of_getElem? (i := 4) rfl)).2
  have L_pa := (hal pa (List.mem_of_getElem? (i := 5) rfl)).2
  have L_sy := (hal sy (List.mem_of_getElem? (i := 6) rfl)).2
  have L_rt := (hal rt (List.mem_of_getElem? (i := 7) rfl)).2
  have L_tp := (hal tp (List.mem_of_getElem? (i := 8) rfl)).2
  have L_lo : q0 ∈ L2 := hG2.2.1 q0 (by simp)
  have hB : SyB ((q0, we, ga, ra, al, rv, pa, sy, rt, tp, ad, aw, tad, taw) : LgA) [] g t L2 f2 ((0, 0, 0, t, 0, 0, mapN (fun _ _ => 30) (fun _ => 0) 12, fun _ => 0, fun _ => 0, fun _ => 0, fun _ => 0, vs0, vs0, fun _ => 0, fun _ => none) : LgD) := ⟨L_lo, f_lo, List.not_mem_nil, L_we, f_we, List.not_mem_nil, L_ga, f_ga, List.not_mem_nil, L_ra, f_ra, List.not_mem_nil, L_al, f_al, List.not_mem_nil, L_rv, f_rv, List.not_mem_nil, L_pa, f_pa, List.not_mem_nil, L_sy, f_sy, List.not_mem_nil, L_rt, f_rt, List.not_mem_nil, L_tp, f_tp, List.not_mem_nil, Nat.zero_le _, Nat.zero_le _, fun k _ => ⟨false, rfl⟩, fun j hj => absurd hj (Nat.not_lt_zero j), fun _ => rfl, hV, hD, hT, hDT, hXX, hsy, hsyT, hrr, hgr, fun _ _ => rfl, fun v hv => ⟨List.not_mem_nil, List.not_mem_nil⟩, fun v hv => ⟨List.not_mem_nil, List.not_mem_nil⟩, fun j hj => absurd hj (Nat.not_lt_zero j)⟩
  have hY : SyO ((q0, we, ga, ra, al, rv, pa, sy, rt, tp, ad, aw, tad, taw) : LgA) g t L2 f2 o0 := ⟨_, hB, rfl⟩
  refine lv_astore_n (lv' := [(1, .ref q0), (0, .ref b)]) hx hb dL_law_7 rfl hl (by decide) rfl (fun ls hl => ?_)
  refine lv_aload_n hx hb dL_law_8 rfl (lv_at hl 0 rfl) ?_
  refine lv_aload_n hx hb dL_law_9 rfl (lv_at hl 1 rfl) ?_
  have hbL : b ∉ L2 := fun z => hbA (hA b z)
  refine va_callr (va_runS (As := [.ref q0, .ref b]) (rest := []) ⟨hx, hb, hml, hown, hts⟩ (m_L_build l hst g H.size t q0 L2 f2 _ b L xs (by omega) rfl hY hG2.1) (va_cwS 2 hts gL_law_L_build rfl rfl rfl (by decide +kernel) ⟨Nat.le_of_ble_eq_true rfl, Nat.le_of_ble_eq_true rfl⟩) ⟨bq_blind, fun U hU hW => ⟨rfl, ⟨by rw [hU], by rw [hU]; exact hP, by rw [hU]; exact (va_X.moved hW.alike hX).kept (hS.2.1 b hbl hbA), by rw [hU]; exact Nat.lt_of_lt_of_le hbl hS.1, hbL⟩, KK.warm hW hK, ZZ.step2 hZ hS hU hW hA, DS.step hDS hS hU hW hA⟩⟩ rfl rfl hl.1 rfl (lv_room (Nat.le_of_ble_eq_true rfl)) dL_law_10 ⟨Nat.le_of_ble_eq_true rfl, Nat.le_of_ble_eq_true rfl⟩) hS (AA_old hA) (AA_free hA (fun _ h => Or.inr h) hS) (fun u q10 T H1 locs1 ht _ hok hB10 hz hk hS1 => ?_)
  obtain ⟨e10, hWP⟩ := hB10
  subst e10
  rw [ht] at hWP
  obtain ⟨a2, Lc2, fc2, Ls2, fs2, hlo2, hY2, hM2, hNc2, hNs2, dcs2, hPc2, hPs2, hA12, hA22⟩ := hWP
  have hW : WD g t q0 u.2 u.1 u.1 [] (fun _ => eO 0 []) (AA [] s.heap.size) s.heap H1 locs1 := ⟨a2, Lc2, fc2, Ls2, fs2, hlo2, hY2, hM2, hNc2, hNs2, List.nodup_nil, dcs2, fun _ _ => List.not_mem_nil, fun _ _ => List.not_mem_nil, hPc2, hPs2, PP.of (fun b hb => absurd hb List.not_mem_nil), fun x hx => AA_up hA hS x (hA12 x hx), fun x hx => AA_up hA hS x (hA22 x hx), fun _ h => absurd h List.not_mem_nil, hS1⟩
  refine lv_astore_n (lv' := [(2, .ref u.2.sm), (1, .ref q0), (0, .ref b)]) hx hb dL_law_13 rfl hl (by decide) rfl (fun ls hl => ?_)
  refine lv_aload_n hx hb dL_law_14 rfl (lv_at hl 0 rfl) ?_
  refine lv_ifnonnull (tgt := 20) hx hb dL_law_15 (by decide) ?_
  refine lv_iconst (v := 0) hx hb dL_law_20 (by decide) ?_
  refine lv_istore_n (lv' := [(3, .int 0), (2, .ref u.2.sm), (1, .ref q0), (0, .ref b)]) hx hb dL_law_21 rfl hl (by decide) rfl (fun ls hl => ?_)
  refine W.base ?_
  exact law_loop C hX hbl (by omega) hr hlk 30 0 (by omega) (by omega) s.drawn u.1 u.2 H1 _ ls _ _ (Drawn.sameBut.refl s.drawn lw_cs) hok hW hl (by omega) (by omega)
-- ===== YOUR PART ENDS =====
set_option maxHeartbeats 4000000 in
theorem lw_walk (l : Launch) (hflags : l.flags = flags0) (b : Addr) (xs : List Int32) : MetFree l x (headSpec (Jvm.Cond.code x code maxLocals ret :: tables_1) room_1) (lw_P b xs) (fun _ _ _ _ _ => True) lw_Q := by
  refine MetFree.of_bodyS (code := code) (maxLocals := maxLocals) (ret := ret) (by decide) ?_ ?_
  · intro args s m h hn
    obtain ⟨meth, c, h1, h2, h3, h4, h5, h6, -, -⟩ := Cond.code_spec hn (atoms_spec (ws := Jvm.Cond.code x code maxLocals ret :: tables_1) h _ List.mem_cons_self)
    exact ⟨meth, c, h1, h2, h3, h4, h5, h6⟩
  · intro p e s m args below meth c s₁ B hml0 hP _
    obtain ⟨rfl, hx, hbd, hgv⟩ := hP
    obtain ⟨scr, harrAt, hlist, hof, hsmall⟩ := hx
    obtain ⟨hcb, hkn, -, -⟩ := State.arrayAt?_spec harrAt
    have hown : s.vm.findClass R_law = some m.cls := findClass_of_methodNamed B.named
    have hts0 : ∀ c ∈ (Jvm.Cond.code x code maxLocals ret :: tables_1), c.before #[Value.ref b] s = true := atoms_spec (ws := Jvm.Cond.code x code maxLocals ret :: tables_1) B.pre
    have hts : ∀ w ∈ lw_tbl, w.before #[Value.ref b] s = true := k2_hts_sels lw_privs (fun w hw => hts0 w (List.mem_cons_of_mem _ hw)) lw_privs_ok
    have hml : c.maxLocals = 32 := B.maxLocals_eq (hts0 _ List.mem_cons_self)
    have X₀ : Stand p l e room_1 s m #[Value.ref b] below meth c s₁ [] 0 0 := Stand.of_body B
    have hh0 : s₁.heap = s.heap := by rw [B.state]; rfl
    have hsz : scr.slots.size = xs.length := by rw [← Array.length_toList, hlist, List.length_map]
    have hval : ∀ j : Nat, j < xs.length → scr.slots[j]? = some (.int (xs.getD j 0)) := fun j hj => by
      rw [← Array.getElem?_toList, hlist]
      simp [hj]
    have hbl : b < s.heap.size := (Array.getElem?_eq_some_iff.mp hcb).1
    have hX : va_X b xs.length (fun j => xs.getD j 0) s s.heap := ⟨scr, hcb, hof, hkn, hsz, hval⟩
    have K : W p l e room_1 s m #[Value.ref b] below meth c s₁.heap [] 0 0 (lw_Z below #[Value.ref b] s) (entryFrame m ([Value.ref b] : List Value).toArray 32) := by
      rw [hh0]
      exact whole_start l hflags hbd ⟨B.exec, B.bytes, B.returns, hml, hown, hts, hX, hbl, B.notSynchronized, hgv⟩
    obtain ⟨t, a1, o, b1, b2, b3⟩ := K s₁ rfl X₀
    exact ⟨t, o, a1, b1, b2, b3⟩
theorem lw_pre_spec {args : Array Value} {s : State} (h : (Jvm.Cond.and given_1 narrow_1).before args s = true) (hr : rest_1_c.before args s = true) : ∃ (b : Addr) (xs : List Int32), lw_P b xs args s := by
  have hs := flat_of_before _ h
  have hq := flat_of_before _ hr
  have hc : (Cond.count 1).before args s = true := hs _ (by decide +kernel)
  have harr : (Cond.arrayOf (.arg 0) .int).before args s = true := hs _ (by decide +kernel)
  have hle : (Cond.le (.length (.arg 0)) (.int 260)).before args s = true := hs _ (by decide +kernel)
  have hlen : (Cond.isInt (.length (.arg 0))).before args s = true := hq _ (by decide +kernel)
  have hall : (Cond.all (.arg 0) (.isInt (.elem (.arg 0) (.index 0)))).before args s = true := hq _ (by decide +kernel)
  obtain ⟨b, xs, hb, hx⟩ := State.ints_of_pre rfl harr hlen hall
  have hsm : xs.length < 2 ^ 31 := hx.choose_spec.2.2.2
  have hev : (Term.length (.arg 0)).eval args s none [] s = some (.int xs.length.toInt32) := hx.length_eval hb
  have hv := Cond.le_ints hev (show (Term.int 260).eval args s none [] s = some (.int 260) from rfl)
  have hd : xs.length.toInt32 ≤ 260 := by
    simpa [Cond.before, Cond.holds, hv] using hle
  have hN : xs.length ≤ 260 := (Int32.ofNat_le_ofNat hsm (by decide)).mp (show Int32.ofNat xs.length ≤ Int32.ofNat 260 from hd)
  exact ⟨b, xs, Cond.one_arg hc (show args[0]? = some (.ref b) from hb), hx, hN, h⟩
theorem lw_comes (l : Launch) (hflags : l.flags = flags0) : Comes l x (Jvm.Cond.code x code maxLocals ret :: tables_1) room_1 (fun tb e args s => Calls_1 tb e args s ∧ rest_1 tb e args s ∧ Pre_1 tb e args s)
    (fun _ _ args s o t => lw_Q args s o t) := by
  intro p e ha hc hk s m args below hf hfit hheap happ hpre
  obtain ⟨b, xs, hP⟩ := lw_pre_spec hpre.2.2 hpre.2.1
  obtain ⟨k, o, h1, h2, h3, hQ⟩ := lw_walk l hflags b xs p e ha hc hk s m args below hf ((Spec.applies_iff_loose hf).mp happ).1 hP trivial
  exact ⟨k, o, h1, h2, h3, hQ⟩
theorem lw_frame {s t : State} {o : Outcome} {args : Array Value} (h : State.butDraws s t lw_cs (fun t1 => Framed s o t1 [] 1200130 5501080)) :
    State.butDraws s t [Jvm.Choice.named "NaN.bits"] (fun t1 => Framed s o t1 (fieldLocs frame_1_writes args s ++ arrayLocs frame_1_arrays args s ++ staticLocs frame_1_statics s) 1200130 5501080) := h
theorem lw_limb (L : Cond) (hL : ∀ (args : Array Value) (s t : State), L.after args s (.returned (some (.int 1))) t = true) :
    ArmFor flags0 classFile x code maxLocals ret World_1 tables_1 room_1 Calls_1 rest_1 Pre_1
      (fun tb e a s o t => postC L tb e a s o t ∧ State.butDraws s t [Jvm.Choice.named "NaN.bits"] (fun t1 => Framed s o t1 (fieldLocs frame_1_writes a s ++ arrayLocs frame_1_arrays a s ++ staticLocs frame_1_statics s) 1200130 5501080)) := by
  intro l hflags _ _ p e ha hc hk s m args below hf hfit hheap happ hpre
  obtain ⟨k, o, h1, h2, h3, rfl, hF⟩ := lw_comes l hflags p e ha hc hk s m args below hf hfit hheap happ hpre
  exact ⟨k, _, h1, h2, h3, hL args s _, lw_frame hF⟩
theorem i_vc : Claimed_1_1 ∧ Claimed_1_2 := ⟨lw_limb limb_1_1 (fun args s t => by simp [limb_1_1, Cond.after, Cond.holds, Cond.value]), lw_limb limb_1_2 (fun args s t => Cond.after_iff.mpr (by
  first | (rw [show limb_1_2 = Cond.eq .result (.int 1) from rfl, Cond.eq_ints (x := 1) (y := 1) rfl rfl]; simp; done) | (simp [limb_1_2, Cond.value, Term.eval]; done)))⟩
