/-! ===== a league that cells choose ===== -/
def o0 : OB := (0, 0, 0, mapN (fun _ _ => 30) (fun _ => 0) 12, fun _ => 0, fun _ => 0, fun _ => 0, vs0)
theorem ok_0 : OkO 10 o0 :=
  ⟨Nat.zero_le _, Nat.zero_le _, Nat.zero_le _, fun _ _ => ⟨false, rfl⟩, fun j hj => absurd hj (Nat.not_lt_zero j), fun v _ => ⟨rfl, 0, 10, 0, by omega, by omega, by omega, rfl, rfl, rfl, fun j hj => ⟨20, by omega, mapN_lt (F := fun _ _ => (20 : Int32)) (w := fun _ => 0) hj⟩⟩, fun k hk => ⟨30, by omega, mapN_lt (F := fun _ _ => (30 : Int32)) (w := fun _ => 0) hk⟩, fun v _ _ => ⟨rfl, rfl, rfl, fun j hj => mapN_lt (F := fun _ _ => (20 : Int32)) (w := fun _ => 0) hj⟩⟩
section BR
variable {p : Program} {l : Launch} {e : Env} {R : Room} {s : State} {m : MethodId} {args : Array Value} {below : List Frame} {meth : Method} {c : Code} {H : Heap} {locs : List Loc} {cells slots : Nat} {Q : State → Prop}
variable {cc : ByteArray} {pc : Nat} {ls : Array Slot} {rest st0 : List Value} {g : GG} {L L0 Lw : List Nat} {f fw : Nat → va_E} {t lo bb bs nS : Nat} {xs : Nat → Int32} {b : SmA} {oc os : OB} {Ts ws : List Cond} {own C host : String} {y : MethodName} {bytes : ByteArray} {maxL nL n index fr lc mc ms M : Nat} {ret : Option FieldType} {As : List Value} {A : Nat → Prop}
theorem sc_S (S : CallFix p m c cc nL s args Ts own) {post : Int32 → Prop} (hM : SC l y ws bs nS xs As post) (hX : va_X bs nS xs s s.heap) (hbl : bs < s.heap.size) (hbA : ¬ A bs) (hS : va_S A s.heap H locs) (cw : CallB R s args own index y bytes maxL ret ws ({ frames := 0, cells := 0, slots := 0, locals := 0 }) 0 0 n ∧ (Cond.static y).before args s = true)
    (hn : As.length = n) (hsize : ls.size = nL) (hstack : st0 = As.reverse ++ rest) (hW : (rest.map fun v => v.category).sum ≤ 8) (hdg : decode cc pc = .ok (.invokestatic index, 3)) (hcs : cells ≤ R.cells ∧ slots ≤ R.slots)
    (kk : ∀ r : Int32, W p l e R s m args below meth c H locs cells slots Q (F0 m (pc + 3) ls (.int r :: rest))) : W p l e R s m args below meth c H locs cells slots Q (F0 m pc ls st0) :=
  vp_callSi (W.runS S hM cw ⟨sp_blind, fun U hU hW => ⟨rfl, by rw [hU]; exact (va_X.moved hW.alike hX).kept (hS.2.1 bs hbl hbA), by rw [hU]; exact Nat.lt_of_lt_of_le hbl hS.1⟩⟩ rfl hn hsize hstack (lv_room hW) hdg hcs) (fun r _ => kk r)
theorem avk_N (S : CallFix p m c cc nL s args Ts own) {post : List Nat → (Nat → va_E) → Prop} (hM : AV l g y ws fr lc mc ms t L f H.size (.ref bb :: As) post) (cw : va_CN R s args own index y host bytes maxL none ws ({ frames := fr, cells := mc, slots := ms, locals := lc }) mc ms n ∧ y.name = "<init>" ∧ (Cond.instanceMethod y).before args s = true) (hK : KK g s) (hDS : DS t L0 s.heap.size s) (hP : PP g L f H) (hA : ∀ a ∈ L, AA L0 s.heap.size a) (hS : va_S (AA L0 s.heap.size) s.heap H locs)
    (hn : As.length = n) (hsize : ls.size = nL) (hstack : st0 = As.reverse ++ .ref bb :: rest) (hW : (rest.map fun v => v.category).sum ≤ 8) (hdg : decode cc pc = .ok (.invokespecial index, 3)) (hcs : cells + mc ≤ R.cells ∧ slots + ms ≤ R.slots)
    (kk : ∀ (L2 : List Nat) (f2 : Nat → va_E) (H1 : Heap) (locs1 : List Loc), GR L L2 H.size → post L2 f2 → PP g L2 f2 H1 → Kp L H H1 → va_S (AA L0 s.heap.size) s.heap H1 locs1 → W p l e R s m args below meth c H1 locs1 (cells + mc) (slots + ms) Q (F0 m (pc + 3) ls (rest))) : W p l e R s m args below meth c H locs cells slots Q (F0 m pc ls st0) :=
  va_callv (va_runIN S hM cw ⟨dp_blind, fun U hU hW => ⟨rfl, by rw [hU], by rw [hU]; exact hP, KK.warm hW hK, DS.step hDS hS hU hW hA⟩⟩ rfl hn hsize hstack (lv_room hW) hdg hcs) hS (AA_old hA) (AA_free hA (fun _ h => Or.inr h) hS) (fun u T H1 locs1 ht _ hw hB _ hk hS1 => kk u.1 u.2 H1 locs1 hw.1 hw.2 (by rw [← ht]; exact hB) (Kp.of hk) hS1)
end BR
abbrev bq (t : Nat) (g : GG) (Lc : List Nat) (fc : Nat → va_E) (bs nS : Nat) (xs : Nat → Int32) (sz : Nat) : State → Prop := fun U => (U.heap.size = sz ∧ PP g Lc fc U.heap ∧ va_X bs nS xs U U.heap ∧ bs < U.heap.size ∧ bs ∉ Lc) ∧ KK g U ∧ ZZ Lc sz U ∧ DS t Lc sz U
theorem bq_blind {t : Nat} {g : GG} {Lc : List Nat} {fc : Nat → va_E} {bs nS : Nat} {xs : Nat → Int32} {sz : Nat} {As : List Value} : FrameBlind (va_Pc As (bq t g Lc fc bs nS xs sz)) := fun a U gg mk q => ⟨q.1, ⟨q.2.1.1, q.2.1.2.1, va_X.moved (u := U) (U := U.calling gg mk a) (Vm.Alike.refl U.vm) q.2.1.2.2.1, q.2.1.2.2.2⟩, KK.same (s := U) (U := U.calling gg mk a) rfl q.2.2.1, ZZ.same q.2.2.2.1, DS.same q.2.2.2.2⟩
abbrev BW (l : Launch) (g : GG) (t lo : Nat) (Lc : List Nat) (fc : Nat → va_E) (bs nS : Nat) (xs : Nat → Int32) (sz : Nat) (M : Nat) : Prop := Met l yL_build wsL_build ({ frames := 10, cells := 900, slots := 46000, locals := 260 }) (va_Pc [.ref lo, .ref bs] (bq t g Lc fc bs nS xs sz)) (va_Qr (fun (u : OB × SmA) => OkO M u.1) (fun u ra T => ra = u.2.sm ∧ WP g t lo u.2 u.1 u.1 (AA Lc sz) T.heap) (AA Lc sz)) 900 46000 (AA Lc sz)
theorem BW.start {l : Launch} {g : GG} {t lo : Nat} {Lc : List Nat} {fc : Nat → va_E} {bs nS sz M : Nat} {xs : Nat → Int32}
    (body : ∀ (p : Program) (e : Env) (s : State) (m : MethodId) (args : Array Value) (below : List Frame) (meth : Method) (c : Code) (Q : State → Prop) (ls : Array Slot), p.tables.exec = Jvm.exec → c.code = cL_build → c.maxLocals = 5 → (∀ w ∈ wsL_build, w.before args s = true) → s.vm.findClass RL = some m.cls → KK g s → ZZ Lc s.heap.size s → DS t Lc s.heap.size s → PP g Lc fc s.heap → va_X bs nS xs s s.heap → bs < s.heap.size → bs ∉ Lc → lv_has ls 5 (lv_args 0 [.ref lo, .ref bs]) →
      (∀ (o : OB) (b : SmA) (H : Heap) (locs : List Loc) (k n pc : Nat) (ls : Array Slot), OkO M o → WD g t lo b o o [] (fun _ => eO 0 []) (AA Lc s.heap.size) s.heap H locs → k ≤ 900 → n ≤ 46000 → decode cL_build pc = .ok (.areturn, 1) → W p l e ({ frames := 10, cells := 900, slots := 46000, locals := 260 } : Room) s m args below meth c H locs k n Q (F0 m pc ls [.ref b.sm])) →
      W p l e ({ frames := 10, cells := 900, slots := 46000, locals := 260 } : Room) s m args below meth c s.heap [] 0 0 Q (F0 m 0 ls [])) : BW l g t lo Lc fc bs nS xs sz M := by
  refine ofWF (cc := cL_build) (maxL := 5) (ret := some (.object "BarometerLeagueLaw$Sim")) (by decide +kernel) rfl ?_
  intro p e s m args below meth c s₁ B hml hv
  obtain ⟨rfl, ⟨hsz, hPc, hX, hbl, hbL⟩, hK, hZ, hDS⟩ := hv
  subst hsz
  have hl := lv_entry ([.ref lo, .ref bs] : List Value) (n := 5) (by simp [lg_sl, Value.category])
  rw [lg_entry_eq]
  have hlk := B.notSynchronized
  exact body p e s m _ below meth c _ _ B.exec B.bytes hml (atoms_spec (ws := wsL_build) B.pre) (findClass_of_methodNamed B.named) hK hZ hDS hPc hX hbl hbL hl (fun o b H locs k n pc ls hok hW hk hn hd => W.widen hk hn (W.aret B.exec B.bytes B.returns (Or.inl ⟨_, rfl⟩) (Or.inr ⟨_, rfl⟩) (fun T ht hW2 => ⟨⟨(o, b), b.sm, rfl, hok, rfl, by dsimp only; rw [ht]; exact hW.P⟩, hW.S.F ht⟩) hW.S.2.2 hd hlk))
set_option maxHeartbeats 8000000 in
set_option maxRecDepth 100000 in
theorem m_L_build (l : Launch) (hst : l.stackTraces = false) (g : GG) (sz t lo : Nat) (Lc : List Nat) (fc : Nat → va_E) (a : LgA) (bs nS : Nat) (xs : Nat → Int32) (hnS : nS < 1000) (hlo : a.lo = lo) (hY : SyO a g t Lc fc o0) (hNc : Lc.Nodup) : BW l g t lo Lc fc bs nS xs sz 11010 := by
  refine BW.start ?_
  intro p e s m args below meth c Q ls hx hb hml hts hown hK hZ hDS hPc hX hbl hbL hl hend
  have hl : lv_has ls 5 [(0, .ref lo), (1, .ref bs)] := hl
  have hbA : ¬ AA Lc s.heap.size bs := fun z => z.elim hbL (fun z => by omega)
  have hi_X5 : ∀ w ∈ u_ws RX5 TX5 6, w ∈ wsL_build := by decide +kernel
  have hAc : ∀ x ∈ Lc, AA Lc s.heap.size x := fun _ h => Or.inl h
  refine pg_new (ci := 6) (fs := [.int 0, .null, .null, .null, .null, .null]) (C := RX5) (T := TX5) (N := 6) hx hb hts hi_X5 tyX5 tyX5_ok hown (hts (.classLink RL 16 RX5) (by decide +kernel)) (hts (.instantiable RX5 6) (by decide +kernel)) (hts (.initialized RX5) (by decide +kernel)) hK hPc hNc hAc (fun _ h => Or.inr h) va_S.rf rfl (fun j hj => by rcases (show j = 0 ∨ j = 1 ∨ j = 2 ∨ j = 3 ∨ j = 4 ∨ j = 5 by omega) with rfl | rfl | rfl | rfl | rfl | rfl <;> rfl) (Nat.le_of_ble_eq_true rfl) (Nat.le_of_ble_eq_true rfl) dL_build_0 (fun q0 H hq0 hAq hP hS => ?_)
  have hPc : PP g Lc fc H := PP.of (fun x hx => by
    have h9 := hP.at (List.mem_cons_of_mem _ hx)
    rw [va_up_ne _ _ (fun z => hq0 (by rw [← z]; exact hx))] at h9
    exact h9)
  have hPq : PP g [q0] (fun _ => eO 6 [.int 0, .null, .null, .null, .null, .null]) H := PP.of (fun x hx => by
    rw [List.mem_singleton.mp hx]
    have h9 := hP.at List.mem_cons_self
    rw [va_up_self] at h9
    exact h9)
  refine lv_dup hx hb dL_build_3 rfl ?_
  refine avk_N (As := []) (rest := [.ref q0]) ⟨hx, hb, hml, hown, hts⟩ (m_X5_init l g [q0] _ _ (by simp) t q0 (by simp) rfl) ⟨va_cnB 0 hts gL_build_X5_init_n73 rfl rfl rfl (hK.2.1 _ (List.mem_of_getElem? (i := 7) rfl)) (hts (.initialized RX5) (by decide +kernel)) (by decide +kernel) ⟨Nat.le_of_ble_eq_true rfl, Nat.le_of_ble_eq_true rfl⟩, rfl, (hts (.instanceMethod yX5_init) (by decide +kernel))⟩ hK hDS hPq (fun x hx => by rw [List.mem_singleton.mp hx]; exact hAq) hS rfl hl.1 rfl (Nat.le_of_ble_eq_true rfl) dL_build_4 ⟨Nat.le_of_ble_eq_true rfl, Nat.le_of_ble_eq_true rfl⟩ (fun L2 f2 H1 locs1 hG hp hP2 hkp hS1 => ?_)
  obtain ⟨q1, q2, q3, q4, q5, n12, l1, l2, l3, l4, l5, lm, g0, ⟨z, g1, hz⟩, g2, g3, g4, g5⟩ := hp
  have dq : ∀ x ∈ [q0], x ∉ Lc := fun x hx => by rw [List.mem_singleton.mp hx]; exact hq0
  have dc2 : ∀ x ∈ L2, x ∉ Lc := dj_gr dq hG.2.2 hPc
  have hPc := hPc.kp (dj_sym dq) hkp
  have hP3 := hP2.swap g1 (h2 := mapN (fun _ _ => 30) (fun _ => 0) 12) (fun j hj => (hz j hj).trans (mapN_lt (F := fun _ _ => (30 : Int32)) (w := fun _ => 0) hj).symm)
  obtain ⟨f3, ef3⟩ : ∃ y, y = va_up f2 q1 (eI g 12 (mapN (fun _ _ => 30) (fun _ => 0) 12)) := ⟨_, rfl⟩
  rw [← ef3] at hP3
  have e3 : ∀ {x : Nat} {y : va_E}, f2 x = y → x ≠ q1 → f3 x = y := fun {x y} h1 h2 => by rw [ef3, va_up_ne _ _ h2]; exact h1
  have hMs : SimO ((q0, q1, q2, q3, q4, q5, fun _ => 0, fun _ => 0, fun _ => 0) : SmA) g L2 f3 o0 := ⟨lm, e3 g0 (ne_e g0 g1 (by simp)), l1, by rw [ef3]; exact va_up_self _ _ _, l2, e3 g2 n12.symm, l3, e3 (g3.trans (congrArg (eR g 0) (vilR_0 _).symm)) (ne_e g3 g1 (by simp)), l4, e3 (g4.trans (congrArg (eR g 0) (vilR_0 _).symm)) (ne_e g4 g1 (by simp)), l5, e3 (g5.trans (congrArg (eR g 0) (vilR_0 _).symm)) (ne_e g5 g1 (by simp)), fun j hj => absurd hj (Nat.not_lt_zero j), fun j hj => absurd hj (Nat.not_lt_zero j), fun j hj => absurd hj (Nat.not_lt_zero j), fun u v hu => absurd hu (Nat.not_lt_zero u), fun u v hu => absurd hu (Nat.not_lt_zero u), n12⟩
  have hAs : ∀ x ∈ L2, AA Lc s.heap.size x := fun x hx => AA_up (fun y hy => by rw [List.mem_singleton.mp hy]; exact hAq) hS x (hG.2.2 x hx)
  have hW : WD g t lo ((q0, q1, q2, q3, q4, q5, fun _ => 0, fun _ => 0, fun _ => 0) : SmA) o0 o0 [] (fun _ => eO 0 []) (AA Lc s.heap.size) s.heap H1 locs1 := ⟨a, Lc, fc, L2, f3, hlo, hY, hMs, hNc, hG.1, List.nodup_nil, dj_sym dc2, fun _ _ => List.not_mem_nil, fun _ _ => List.not_mem_nil, hPc, hP3, PP.of (fun b hb => absurd hb List.not_mem_nil), hAc, hAs, fun _ h => absurd h List.not_mem_nil, hS1⟩
  refine lv_astore_n (lv' := [(2, .ref q0), (0, .ref lo), (1, .ref bs)]) hx hb dL_build_7 rfl hl (by decide) rfl (fun ls hl => ?_)
  refine lv_iconst (v := 0) hx hb dL_build_8 (by decide) ?_
  refine lv_istore_n (lv' := [(3, .int 0), (2, .ref q0), (0, .ref lo), (1, .ref bs)]) hx hb dL_build_9 rfl hl (by decide) rfl (fun ls hl => ?_)
  have KL : ∀ (n k : Nat) (o : OB) (b : SmA) (H : Heap) (locs : List Loc), 44 - k < n → k ≤ 44 → b.sm = q0 → OkO (10 + 250 * k) o → WD g t lo b o o [] (fun _ => eO 0 []) (AA Lc s.heap.size) s.heap H locs → ∀ (ls : Array Slot), lv_has ls 5 [(3, .int (nI k)), (0, .ref lo), (1, .ref bs), (2, .ref b.sm)] → W p l e ({ frames := 10, cells := 900, slots := 46000, locals := 260 } : Room) s m args below meth c H locs (6 + 20 * k) (306 + 1000 * k) Q (F0 m 10 ls []) := by
    intro n
    induction n with
    | zero => intros; omega
    | succ n ih =>
      intro k o b H locs hm hk hbq hok hW ls hl
      refine lv_iload_n hx hb dL_build_10 rfl (lv_at hl 0 rfl) ?_
      refine lv_bipush (v := 44) hx hb dL_build_11 (by decide) ?_
      refine lv_icmp_ge (tgt := 107) hx hb dL_build_13 (by decide) (fun c13 => ?_) (fun c13 => ?_)
      · have c13 : 44 ≤ k := (nI_leI (a := 44) (b := k) (by omega) (by omega)).mp c13
        obtain rfl : k = 44 := by omega
        refine lv_aload_n hx hb dL_build_107 rfl (lv_at hl 3 rfl) ?_
        exact hend o b H locs _ _ _ _ (hok.mono (by omega)) hW (by omega) (by omega) dL_build_108
      · have c13 : k < 44 := Nat.lt_of_not_le (fun z => c13 (nI_le (a := 44) z (by omega)))
        refine lv_aload_n hx hb dL_build_16 rfl (lv_at hl 2 rfl) ?_
        refine lv_iload_n hx hb dL_build_17 rfl (lv_at hl 0 rfl) ?_
        refine lv_bipush (v := 16) hx hb dL_build_18 (by decide) ?_
        refine lv_irem hx hb dL_build_20 (by decide) ?_
        refine lv_topi (fun v20 ev20 => ?_)
        rw [show v20 = nI (k % 16) from (ev20.trans (pk_rem (a := k) (d := 16) (by omega) (by decide) (by decide)))]
        refine sc_S (As := [.ref bs, .int (nI (k % 16))]) (rest := []) ⟨hx, hb, hml, hown, hts⟩ (m_L_cell l bs nS xs (k % 16) (by omega) hnS) hX hbl hbA hW.S (va_cwS 2 hts gL_build_L_cell rfl rfl rfl (by decide +kernel) ⟨Nat.le_of_ble_eq_true rfl, Nat.le_of_ble_eq_true rfl⟩) rfl hl.1 rfl (Nat.le_of_ble_eq_true rfl) dL_build_21 ⟨by show _ ≤ 900; omega, by show _ ≤ 46000; omega⟩ (fun r21 => ?_)
        refine lv_iload_n hx hb dL_build_24 rfl (lv_at hl 0 rfl) ?_
        refine lv_bipush (v := 16) hx hb dL_build_25 (by decide) ?_
        refine lv_idiv hx hb dL_build_27 (by decide) ?_
        refine lv_topi (fun v27 ev27 => ?_)
        refine lv_iconst (v := 5) hx hb dL_build_28 (by decide) ?_
        refine lv_imul hx hb dL_build_29 ?_
        refine lv_topi (fun v29 ev29 => ?_)
        refine lv_ishr hx hb dL_build_30 ?_
        refine lv_topi (fun v30 ev30 => ?_)
        refine lv_sipush (v := 263) hx hb dL_build_31 (by decide) ?_
        refine lv_iload_n hx hb dL_build_34 rfl (lv_at hl 0 rfl) ?_
        refine lv_imul hx hb dL_build_35 ?_
        refine lv_topi (fun v35 ev35 => ?_)
        refine lv_iadd hx hb dL_build_36 ?_
        refine lv_topi (fun v36 ev36 => ?_)
        refine lv_istore (lv' := [(4, .int v36), (3, .int (nI k)), (0, .ref lo), (1, .ref bs), (2, .ref b.sm)]) hx hb dL_build_37 hl (by decide) rfl (fun ls hl => ?_)
        refine lv_iload_n hx hb dL_build_39 rfl (lv_at hl 1 rfl) ?_
        refine lv_bipush (v := 10) hx hb dL_build_40 (by decide) ?_
        refine lv_icmp_ge (tgt := 89) hx hb dL_build_42 (by decide) (fun c42 => ?_) (fun c42 => ?_)
        · skip
          have c42 : 10 ≤ k := (nI_leI (a := 10) (b := k) (by omega) (by omega)).mp (show nI 10 ≤ nI k from c42)
          refine lv_aload_n hx hb dL_build_89 rfl (lv_at hl 2 rfl) ?_
          refine lv_aload_n hx hb dL_build_90 rfl (lv_at hl 4 rfl) ?_
          refine lv_iload hx hb dL_build_91 (lv_at hl 0 rfl) ?_
          refine dw_SH (hh := [(600, 634, 635, 67)]) (As := [.int v36]) (rest := []) ⟨hx, hb, hml, hown, hts⟩ hK hZ hDS hW (fun a Lc2 fc2 Ls2 fs2 e1 e2 e3 e4 e5 e6 => m_L_act l hst g _ t lo Lc2 Ls2 fc2 fs2 a b o _ v36 e1 e2 e3 e4 e5 e6 hok (by omega)) (vx_cwSW 3 hts gL_build_L_act rfl rfl rfl (by decide +kernel) ⟨Nat.le_of_ble_eq_true rfl, Nat.le_of_ble_eq_true rfl⟩) rfl hl.1 rfl (Nat.le_of_ble_eq_true rfl) dL_build_93 ⟨by show _ ≤ 900; omega, by show _ ≤ 46000; omega⟩ (fun r o2 b2 H locs hb2 hp hW => ?_)
          obtain ⟨rfl, hok⟩ := hp
          refine lv_if_ne (tgt := 101) hx hb dL_build_96 (by decide) (fun _ => ?_) (fun h => absurd h (by decide))
          refine lv_iinc (v := nI (k + 1)) (lv' := [(3, .int (nI (k + 1))), (4, .int v36), (0, .ref lo), (1, .ref bs), (2, .ref b.sm)]) hx hb dL_build_101 hl (k := 1) rfl (nI_1 _) (by decide) rfl (fun ls hl => ?_)
          refine lv_goto (tgt := 10) hx hb dL_build_104 (by decide) ?_
          refine W.widen (k := 6 + 20 * (k + 1)) (n := 306 + 1000 * (k + 1)) (by omega) (by omega) ?_
          exact ih (k + 1) o2 b2 H locs (by omega) (by omega) (hb2.trans hbq) (hok.mono (by omega)) hW ls (by rw [hb2]; exact lv_sub hl [0, 2, 3, 4] rfl)
        · skip
          have c42 : ¬ 10 ≤ k := fun h => c42 ((nI_leI (a := 10) (b := k) (by omega) (by omega)).mpr h)
          refine lv_bipush (v := 12) hx hb dL_build_45 (by decide) ?_
          refine lv_iload hx hb dL_build_47 (lv_at hl 0 rfl) ?_
          refine lv_ldc (v := 100000) hx hb hown (hts (.constant RL 78 (100000)) (by decide +kernel)) dL_build_49 ?_
          refine ro_S (As := [.int v36, .int (nI 100000)]) (rest := [.int 12]) ⟨hx, hb, hml, hown, hts⟩ (m_L_below l g (fun _ => eO 0 []) v36 100000 (by omega) (by omega)) (va_cwS 2 hts gL_build_L_below rfl rfl rfl (by decide +kernel) ⟨Nat.le_of_ble_eq_true rfl, Nat.le_of_ble_eq_true rfl⟩) hK (PP.of (fun b hb => absurd hb List.not_mem_nil)) rfl hl.1 rfl (Nat.le_of_ble_eq_true rfl) dL_build_51 ⟨by show _ ≤ 900; omega, by show _ ≤ 46000; omega⟩ (fun r51 hr51 => ?_)
          obtain ⟨k51, hk51, rfl⟩ := hr51
          refine lv_imul hx hb dL_build_54 ?_
          refine lv_topi (fun v54 ev54 => ?_)
          refine lv_iload_n hx hb dL_build_55 rfl (lv_at hl 1 rfl) ?_
          refine lv_iconst (v := 4) hx hb dL_build_56 (by decide) ?_
          refine lv_icmp_ge (tgt := 64) hx hb dL_build_57 (by decide) (fun c57 => ?_) (fun c57 => ?_)
          · skip
            have c57 : 4 ≤ k := (nI_leI (a := 4) (b := k) (by omega) (by omega)).mp (show nI 4 ≤ nI k from c57)
            refine lv_iload_n hx hb dL_build_64 rfl (lv_at hl 1 rfl) ?_
            refine lv_bipush (v := 7) hx hb dL_build_65 (by decide) ?_
            refine lv_icmp_ge (tgt := 75) hx hb dL_build_67 (by decide) (fun c67 => ?_) (fun c67 => ?_)
            · skip
              have c67 : 7 ≤ k := (nI_leI (a := 7) (b := k) (by omega) (by omega)).mp (show nI 7 ≤ nI k from c67)
              refine lv_iload_n hx hb dL_build_75 rfl (lv_at hl 1 rfl) ?_
              refine lv_bipush (v := 9) hx hb dL_build_76 (by decide) ?_
              refine lv_icmp_ge (tgt := 85) hx hb dL_build_78 (by decide) (fun c78 => ?_) (fun c78 => ?_)
              · skip
                have c78 : 9 ≤ k := (nI_leI (a := 9) (b := k) (by omega) (by omega)).mp (show nI 9 ≤ nI k from c78)
                refine lv_iconst (v := 0) hx hb dL_build_85 (by decide) ?_
                refine lv_iadd hx hb dL_build_86 ?_
                refine lv_topi (fun v86 ev86 => ?_)
                refine lv_istore (lv' := [(4, .int v86), (3, .int (nI k)), (0, .ref lo), (1, .ref bs), (2, .ref b.sm)]) hx hb dL_build_87 hl (by decide) rfl (fun ls hl => ?_)
                refine lv_aload_n hx hb dL_build_89 rfl (lv_at hl 2 rfl) ?_
                refine lv_aload_n hx hb dL_build_90 rfl (lv_at hl 4 rfl) ?_
                refine lv_iload hx hb dL_build_91 (lv_at hl 0 rfl) ?_
                refine dw_SH (hh := [(600, 634, 635, 67)]) (As := [.int v86]) (rest := []) ⟨hx, hb, hml, hown, hts⟩ hK hZ hDS hW (fun a Lc2 fc2 Ls2 fs2 e1 e2 e3 e4 e5 e6 => m_L_act l hst g _ t lo Lc2 Ls2 fc2 fs2 a b o _ v86 e1 e2 e3 e4 e5 e6 hok (by omega)) (vx_cwSW 3 hts gL_build_L_act rfl rfl rfl (by decide +kernel) ⟨Nat.le_of_ble_eq_true rfl, Nat.le_of_ble_eq_true rfl⟩) rfl hl.1 rfl (Nat.le_of_ble_eq_true rfl) dL_build_93 ⟨by show _ ≤ 900; omega, by show _ ≤ 46000; omega⟩ (fun r o2 b2 H locs hb2 hp hW => ?_)
                obtain ⟨rfl, hok⟩ := hp
                refine lv_if_ne (tgt := 101) hx hb dL_build_96 (by decide) (fun _ => ?_) (fun h => absurd h (by decide))
                refine lv_iinc (v := nI (k + 1)) (lv' := [(3, .int (nI (k + 1))), (4, .int v86), (0, .ref lo), (1, .ref bs), (2, .ref b.sm)]) hx hb dL_build_101 hl (k := 1) rfl (nI_1 _) (by decide) rfl (fun ls hl => ?_)
                refine lv_goto (tgt := 10) hx hb dL_build_104 (by decide) ?_
                refine W.widen (k := 6 + 20 * (k + 1)) (n := 306 + 1000 * (k + 1)) (by omega) (by omega) ?_
                exact ih (k + 1) o2 b2 H locs (by omega) (by omega) (hb2.trans hbq) (hok.mono (by omega)) hW ls (by rw [hb2]; exact lv_sub hl [0, 2, 3, 4] rfl)
              · skip
                have c78 : ¬ 9 ≤ k := fun h => c78 ((nI_leI (a := 9) (b := k) (by omega) (by omega)).mpr h)
                refine lv_iconst (v := 2) hx hb dL_build_81 (by decide) ?_
                refine lv_goto (tgt := 86) hx hb dL_build_82 (by decide) ?_
                refine lv_iadd hx hb dL_build_86 ?_
                refine lv_topi (fun v86 ev86 => ?_)
                refine lv_istore (lv' := [(4, .int v86), (3, .int (nI k)), (0, .ref lo), (1, .ref bs), (2, .ref b.sm)]) hx hb dL_build_87 hl (by decide) rfl (fun ls hl => ?_)
                refine lv_aload_n hx hb dL_build_89 rfl (lv_at hl 2 rfl) ?_
                refine lv_aload_n hx hb dL_build_90 rfl (lv_at hl 4 rfl) ?_
                refine lv_iload hx hb dL_build_91 (lv_at hl 0 rfl) ?_
                refine dw_SH (hh := [(600, 634, 635, 67)]) (As := [.int v86]) (rest := []) ⟨hx, hb, hml, hown, hts⟩ hK hZ hDS hW (fun a Lc2 fc2 Ls2 fs2 e1 e2 e3 e4 e5 e6 => m_L_act l hst g _ t lo Lc2 Ls2 fc2 fs2 a b o _ v86 e1 e2 e3 e4 e5 e6 hok (by omega)) (vx_cwSW 3 hts gL_build_L_act rfl rfl rfl (by decide +kernel) ⟨Nat.le_of_ble_eq_true rfl, Nat.le_of_ble_eq_true rfl⟩) rfl hl.1 rfl (Nat.le_of_ble_eq_true rfl) dL_build_93 ⟨by show _ ≤ 900; omega, by show _ ≤ 46000; omega⟩ (fun r o2 b2 H locs hb2 hp hW => ?_)
                obtain ⟨rfl, hok⟩ := hp
                refine lv_if_ne (tgt := 101) hx hb dL_build_96 (by decide) (fun _ => ?_) (fun h => absurd h (by decide))
                refine lv_iinc (v := nI (k + 1)) (lv' := [(3, .int (nI (k + 1))), (4, .int v86), (0, .ref lo), (1, .ref bs), (2, .ref b.sm)]) hx hb dL_build_101 hl (k := 1) rfl (nI_1 _) (by decide) rfl (fun ls hl => ?_)
                refine lv_goto (tgt := 10) hx hb dL_build_104 (by decide) ?_
                refine W.widen (k := 6 + 20 * (k + 1)) (n := 306 + 1000 * (k + 1)) (by omega) (by omega) ?_
                exact ih (k + 1) o2 b2 H locs (by omega) (by omega) (hb2.trans hbq) (hok.mono (by omega)) hW ls (by rw [hb2]; exact lv_sub hl [0, 2, 3, 4] rfl)
            · skip
              have c67 : ¬ 7 ≤ k := fun h => c67 ((nI_leI (a := 7) (b := k) (by omega) (by omega)).mpr h)
              refine lv_bipush (v := 6) hx hb dL_build_70 (by decide) ?_
              refine lv_goto (tgt := 86) hx hb dL_build_72 (by decide) ?_
              refine lv_iadd hx hb dL_build_86 ?_
              refine lv_topi (fun v86 ev86 => ?_)
              refine lv_istore (lv' := [(4, .int v86), (3, .int (nI k)), (0, .ref lo), (1, .ref bs), (2, .ref b.sm)]) hx hb dL_build_87 hl (by decide) rfl (fun ls hl => ?_)
              refine lv_aload_n hx hb dL_build_89 rfl (lv_at hl 2 rfl) ?_
              refine lv_aload_n hx hb dL_build_90 rfl (lv_at hl 4 rfl) ?_
              refine lv_iload hx hb dL_build_91 (lv_at hl 0 rfl) ?_
              refine dw_SH (hh := [(600, 634, 635, 67)]) (As := [.int v86]) (rest := []) ⟨hx, hb, hml, hown, hts⟩ hK hZ hDS hW (fun a Lc2 fc2 Ls2 fs2 e1 e2 e3 e4 e5 e6 => m_L_act l hst g _ t lo Lc2 Ls2 fc2 fs2 a b o _ v86 e1 e2 e3 e4 e5 e6 hok (by omega)) (vx_cwSW 3 hts gL_build_L_act rfl rfl rfl (by decide +kernel) ⟨Nat.le_of_ble_eq_true rfl, Nat.le_of_ble_eq_true rfl⟩) rfl hl.1 rfl (Nat.le_of_ble_eq_true rfl) dL_build_93 ⟨by show _ ≤ 900; omega, by show _ ≤ 46000; omega⟩ (fun r o2 b2 H locs hb2 hp hW => ?_)
              obtain ⟨rfl, hok⟩ := hp
              refine lv_if_ne (tgt := 101) hx hb dL_build_96 (by decide) (fun _ => ?_) (fun h => absurd h (by decide))
              refine lv_iinc (v := nI (k + 1)) (lv' := [(3, .int (nI (k + 1))), (4, .int v86), (0, .ref lo), (1, .ref bs), (2, .ref b.sm)]) hx hb dL_build_101 hl (k := 1) rfl (nI_1 _) (by decide) rfl (fun ls hl => ?_)
              refine lv_goto (tgt := 10) hx hb dL_build_104 (by decide) ?_
              refine W.widen (k := 6 + 20 * (k + 1)) (n := 306 + 1000 * (k + 1)) (by omega) (by omega) ?_
              exact ih (k + 1) o2 b2 H locs (by omega) (by omega) (hb2.trans hbq) (hok.mono (by omega)) hW ls (by rw [hb2]; exact lv_sub hl [0, 2, 3, 4] rfl)
          · skip
            have c57 : ¬ 4 ≤ k := fun h => c57 ((nI_leI (a := 4) (b := k) (by omega) (by omega)).mpr h)
            refine lv_iconst (v := 4) hx hb dL_build_60 (by decide) ?_
            refine lv_goto (tgt := 86) hx hb dL_build_61 (by decide) ?_
            refine lv_iadd hx hb dL_build_86 ?_
            refine lv_topi (fun v86 ev86 => ?_)
            refine lv_istore (lv' := [(4, .int v86), (3, .int (nI k)), (0, .ref lo), (1, .ref bs), (2, .ref b.sm)]) hx hb dL_build_87 hl (by decide) rfl (fun ls hl => ?_)
            refine lv_aload_n hx hb dL_build_89 rfl (lv_at hl 2 rfl) ?_
            refine lv_aload_n hx hb dL_build_90 rfl (lv_at hl 4 rfl) ?_
            refine lv_iload hx hb dL_build_91 (lv_at hl 0 rfl) ?_
            refine dw_SH (hh := [(600, 634, 635, 67)]) (As := [.int v86]) (rest := []) ⟨hx, hb, hml, hown, hts⟩ hK hZ hDS hW (fun a Lc2 fc2 Ls2 fs2 e1 e2 e3 e4 e5 e6 => m_L_act l hst g _ t lo Lc2 Ls2 fc2 fs2 a b o _ v86 e1 e2 e3 e4 e5 e6 hok (by omega)) (vx_cwSW 3 hts gL_build_L_act rfl rfl rfl (by decide +kernel) ⟨Nat.le_of_ble_eq_true rfl, Nat.le_of_ble_eq_true rfl⟩) rfl hl.1 rfl (Nat.le_of_ble_eq_true rfl) dL_build_93 ⟨by show _ ≤ 900; omega, by show _ ≤ 46000; omega⟩ (fun r o2 b2 H locs hb2 hp hW => ?_)
            obtain ⟨rfl, hok⟩ := hp
            refine lv_if_ne (tgt := 101) hx hb dL_build_96 (by decide) (fun _ => ?_) (fun h => absurd h (by decide))
            refine lv_iinc (v := nI (k + 1)) (lv' := [(3, .int (nI (k + 1))), (4, .int v86), (0, .ref lo), (1, .ref bs), (2, .ref b.sm)]) hx hb dL_build_101 hl (k := 1) rfl (nI_1 _) (by decide) rfl (fun ls hl => ?_)
            refine lv_goto (tgt := 10) hx hb dL_build_104 (by decide) ?_
            refine W.widen (k := 6 + 20 * (k + 1)) (n := 306 + 1000 * (k + 1)) (by omega) (by omega) ?_
            exact ih (k + 1) o2 b2 H locs (by omega) (by omega) (hb2.trans hbq) (hok.mono (by omega)) hW ls (by rw [hb2]; exact lv_sub hl [0, 2, 3, 4] rfl)
  refine W.widen (k := 6) (n := 306) (by omega) (by omega) ?_
  exact KL 45 0 o0 _ H1 locs1 (by omega) (by omega) rfl ok_0 hW ls (lv_sub hl [0, 2, 3, 1] rfl)
