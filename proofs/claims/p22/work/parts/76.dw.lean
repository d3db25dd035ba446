/-! ===== contracts over both leagues ===== -/
abbrev dq (t : Nat) (g : GG) (Lc : List Nat) (fc : Nat → va_E) (Ls : List Nat) (fs : Nat → va_E) (sz : Nat) : State → Prop := fun U => (U.heap.size = sz ∧ PP g Lc fc U.heap ∧ PP g Ls fs U.heap) ∧ KK g U ∧ ZZ (Lc ++ Ls) sz U ∧ DS t (Lc ++ Ls) sz U
theorem dq_blind {t : Nat} {g : GG} {Lc Ls : List Nat} {fc fs : Nat → va_E} {sz : Nat} {As : List Value} : FrameBlind (va_Pc As (dq t g Lc fc Ls fs sz)) := fun a U gg mk q => ⟨q.1, q.2.1, KK.same (s := U) (U := U.calling gg mk a) rfl q.2.2.1, ZZ.same q.2.2.2.1, DS.same q.2.2.2.2⟩
abbrev DW (l : Launch) (g : GG) (y : MethodName) (ws : List Cond) (fr lc mc ms t lo : Nat) (Lc : List Nat) (fc : Nat → va_E) (Ls : List Nat) (fs : Nat → va_E) (sz : Nat) (As : List Value) (post : Int32 → OB → Prop) : Prop := Met l y ws ({ frames := fr, cells := mc, slots := ms, locals := lc }) (va_Pc As (dq t g Lc fc Ls fs sz)) (va_Qi (fun r (u : OB × SmA) => post r u.1) (fun u T => u.2.sm = (As.getD 1 .null |> fun v => match v with | .ref a => a | _ => 0) ∧ WP g t lo u.2 u.1 u.1 (AA (Lc ++ Ls) sz) T.heap) (AA (Lc ++ Ls) sz)) mc ms (AA (Lc ++ Ls) sz)
theorem ZZ.step3 {L L2 : List Nat} {s U : State} {H : Heap} {locs : List Loc} (h : ZZ L s.heap.size s) (hS : va_S (AA L s.heap.size) s.heap H locs) (hU : U.heap = H) (hW : s.WarmedH U.vm) (hA : ∀ a ∈ L2, AA L s.heap.size a) : ZZ L2 H.size U := ZZ.step2 h hS hU hW hA
/-- the two leagues come back from a call -/
theorem wd_back {g : GG} {t lo : Nat} {b2 : SmA} {o2 : OB} {L0 Lc Ls Lw : List Nat} {fw : Nat → va_E} {H0 H H1 : Heap} {locs locs1 : List Loc} (hP : WP g t lo b2 o2 o2 (AA (Lc ++ Ls) H.size) H1) (hAc : ∀ x ∈ Lc, AA L0 H0.size x) (hAs : ∀ x ∈ Ls, AA L0 H0.size x) (hAw : ∀ x ∈ Lw, AA L0 H0.size x) (hNw : Lw.Nodup) (dcw : ∀ x ∈ Lc, x ∉ Lw) (dsw : ∀ x ∈ Ls, x ∉ Lw) (hPw : PP g Lw fw H) (hk : Kp (Lc ++ Ls) H H1) (hS : va_S (AA L0 H0.size) H0 H locs) (hS1 : va_S (AA L0 H0.size) H0 H1 locs1) : WD g t lo b2 o2 o2 Lw fw (AA L0 H0.size) H0 H1 locs1 := by
  obtain ⟨a, Lc2, fc2, Ls2, fs2, hlo, hY, hM, hNc, hNs, dcs, hPc, hPs, hA1, hA2⟩ := hP
  have hd : ∀ x ∈ Lc ++ Ls, x ∉ Lw := dj_app2 dcw dsw
  have up := AA_up (al_app hAc hAs) hS
  exact ⟨a, Lc2, fc2, Ls2, fs2, hlo, hY, hM, hNc, hNs, hNw, dcs, dj_gr hd hA1 hPw, dj_gr hd hA2 hPw, hPc, hPs, hPw.kp (dj_sym hd) hk, fun x hx => up x (hA1 x hx), fun x hx => up x (hA2 x hx), hAw, hS1⟩
section DWR
variable {p : Program} {l : Launch} {e : Env} {R : Room} {s : State} {m : MethodId} {args : Array Value} {below : List Frame} {meth : Method} {c : Code} {H : Heap} {locs : List Loc} {cells slots : Nat} {Q : State → Prop}
variable {cc : ByteArray} {pc : Nat} {ls : Array Slot} {rest st0 : List Value} {g : GG} {L L0 Lw : List Nat} {f fw : Nat → va_E} {t lo bb : Nat} {b : SmA} {oc os : OB} {Ts ws : List Cond} {own C : String} {y : MethodName} {bytes : ByteArray} {maxL nL n index fr lc mc ms M : Nat} {ret : Option FieldType} {As : List Value}
theorem dw_S (S : CallFix p m c cc nL s args Ts own) (hK : KK g s) (hZ : ZZ L0 s.heap.size s) (hDS : DS t L0 s.heap.size s) (hW : WD g t lo b oc oc Lw fw (AA L0 s.heap.size) s.heap H locs) {post : Int32 → OB → Prop}
    (hM : ∀ (a : LgA) (Lc : List Nat) (fc : Nat → va_E) (Ls : List Nat) (fs : Nat → va_E), a.lo = lo → SyO a g t Lc fc oc → SimO b g Ls fs oc → Lc.Nodup → Ls.Nodup → (∀ x ∈ Lc, x ∉ Ls) → DW l g y ws fr lc mc ms t lo Lc fc Ls fs H.size (.ref lo :: .ref b.sm :: As) post)
    (cw : CallB R s args own index y bytes maxL ret ws ({ frames := fr, cells := mc, slots := ms, locals := lc }) mc ms n ∧ (Cond.static y).before args s = true)
    (hn : As.length + 2 = n) (hsize : ls.size = nL) (hstack : st0 = As.reverse ++ .ref b.sm :: .ref lo :: rest) (hWr : (rest.map fun v => v.category).sum ≤ 8) (hdg : decode cc pc = .ok (.invokestatic index, 3)) (hcs : cells + mc ≤ R.cells ∧ slots + ms ≤ R.slots)
    (kk : ∀ (r : Int32) (o2 : OB) (b2 : SmA) (H1 : Heap) (locs1 : List Loc), b2.sm = b.sm → post r o2 → WD g t lo b2 o2 o2 Lw fw (AA L0 s.heap.size) s.heap H1 locs1 → W p l e R s m args below meth c H1 locs1 (cells + mc) (slots + ms) Q (F0 m (pc + 3) ls (.int r :: rest))) : W p l e R s m args below meth c H locs cells slots Q (F0 m pc ls st0) := by
  obtain ⟨a, Lc, fc, Ls, fs, hlo, hY, hMs, hNc, hNs, hNw, dcs, dcw, dsw, hPc, hPs, hPw, hAc, hAs, hAw, hS⟩ := hW
  refine va_calli (va_runS S (hM a Lc fc Ls fs hlo hY hMs hNc hNs dcs) cw ⟨dq_blind, fun U hU hW => ⟨rfl, ⟨by rw [hU], by rw [hU]; exact hPc, by rw [hU]; exact hPs⟩, KK.warm hW hK, ZZ.step2 hZ hS hU hW (al_app hAc hAs), DS.step hDS hS hU hW (al_app hAc hAs)⟩⟩ rfl (by simpa using hn) hsize (by rw [hstack]; simp) (lv_room hWr) hdg hcs) hS (AA_old (al_app hAc hAs)) (AA_free (al_app hAc hAs) (fun _ h => Or.inr h) hS) (fun r u T H1 locs1 ht _ hw hB _ hk hS1 => ?_)
  obtain ⟨h1, h2⟩ := hB
  exact kk r u.1 u.2 H1 locs1 h1 hw (wd_back (by rw [← ht]; exact h2) hAc hAs hAw hNw dcw dsw hPw (Kp.of hk) hS hS1)
/-- how such a method begins and ends -/
theorem DW.start {ws' : List Cond} {cc : ByteArray} {maxL sz : Nat} {Lc Ls : List Nat} {fc fs : Nat → va_E} {ret : FieldType} {post : Int32 → OB → Prop} {a : LgA} (hy : plainFor y = true) (hw : ws = Cond.code y cc maxL (some ret) :: ws') (hn : (lg_sl (.ref lo :: .ref b.sm :: As)).length ≤ maxL)
    (hlo : a.lo = lo) (hY : SyO a g t Lc fc oc) (hMs : SimO b g Ls fs oc) (hNc : Lc.Nodup) (hNs : Ls.Nodup) (dcs : ∀ x ∈ Lc, x ∉ Ls)
    (body : ∀ (p : Program) (e : Env) (s : State) (m : MethodId) (args : Array Value) (below : List Frame) (meth : Method) (c : Code) (Q : State → Prop) (ls : Array Slot), p.tables.exec = Jvm.exec → c.code = cc → c.maxLocals = maxL → (∀ w ∈ ws, w.before args s = true) → s.vm.findClass y.cls = some m.cls → KK g s → ZZ (Lc ++ Ls) s.heap.size s → DS t (Lc ++ Ls) s.heap.size s → WD g t lo b oc oc [] (fun _ => eO 0 []) (AA (Lc ++ Ls) s.heap.size) s.heap s.heap [] → lv_has ls maxL (lv_args 0 (.ref lo :: .ref b.sm :: As)) →
      (∀ (v : Int32) (o2 : OB) (b2 : SmA) (Lw : List Nat) (fw : Nat → va_E) (H : Heap) (locs : List Loc) (k n pc : Nat) (ls : Array Slot), b2.sm = b.sm → post v o2 → WD g t lo b2 o2 o2 Lw fw (AA (Lc ++ Ls) s.heap.size) s.heap H locs → narrow ret (.int v) = .int v → k ≤ mc → n ≤ ms → decode cc pc = .ok (.ireturn, 1) → W p l e ({ frames := fr, cells := mc, slots := ms, locals := lc } : Room) s m args below meth c H locs k n Q (F0 m pc ls [.int v])) →
      W p l e ({ frames := fr, cells := mc, slots := ms, locals := lc } : Room) s m args below meth c s.heap [] 0 0 Q (F0 m 0 ls [])) : DW l g y ws fr lc mc ms t lo Lc fc Ls fs sz (.ref lo :: .ref b.sm :: As) post := by
  refine ofWF (cc := cc) (maxL := maxL) (ret := some ret) hy hw ?_
  intro p e s m args below meth c s₁ B hml hv
  obtain ⟨rfl, ⟨hsz, hPc, hPs⟩, hK, hZ, hD⟩ := hv
  subst hsz
  have hl := lv_entry (.ref lo :: .ref b.sm :: As) (n := maxL) hn
  rw [lg_entry_eq]
  have hlk := B.notSynchronized
  exact body p e s m _ below meth c _ _ B.exec B.bytes hml (atoms_spec (ws := ws) B.pre) (findClass_of_methodNamed B.named) hK hZ hD ⟨a, Lc, fc, Ls, fs, hlo, hY, hMs, hNc, hNs, List.nodup_nil, dcs, fun _ _ => List.not_mem_nil, fun _ _ => List.not_mem_nil, hPc, hPs, PP.of (fun b hb => absurd hb List.not_mem_nil), fun _ h => Or.inl (List.mem_append.mpr (Or.inl h)), fun _ h => Or.inl (List.mem_append.mpr (Or.inr h)), fun _ h => absurd h List.not_mem_nil, va_S.rf⟩ hl (fun v o2 b2 Lw fw H locs k n pc ls hb2 hp hW hnr hk hn hd => W.widen hk hn (W.zret (ty := ret) B.exec B.bytes B.returns hnr (fun T ht hW2 => ⟨⟨v, (o2, b2), rfl, hp, hb2, by dsimp only; rw [ht]; exact hW.P⟩, hW.S.F ht⟩) hW.S.2.2 hd hlk))
end DWR
set_option maxHeartbeats 4000000 in
set_option maxRecDepth 100000 in
theorem m_L_passed (l : Launch) (hst : l.stackTraces = false) (g : GG) (sz t lo : Nat) (Lc Ls : List Nat) (fc fs : Nat → va_E) (a : LgA) (b : SmA) (o : OB) (M k : Nat) (hlo : a.lo = lo) (hY : SyO a g t Lc fc o) (hMs : SimO b g Ls fs o) (hNc : Lc.Nodup) (hNs : Ls.Nodup) (dcs : ∀ x ∈ Lc, x ∉ Ls) (hok : OkO M o) (hM : M + 5 * k < 2 ^ 29) (h1 : 1 ≤ k) (hk : k ≤ 90) : DW l g yL_passed wsL_passed 8 160 1 6 t lo Lc fc Ls fs sz [.ref lo, .ref b.sm, .int (nI k)] (fun r o2 => r = 1 ∧ o2 = itO o k) := by
  refine DW.start (As := [.int (nI k)]) (cc := cL_passed) (maxL := 3) (ret := .boolean) (by decide +kernel) rfl (by simp [lg_sl, Value.category]) hlo hY hMs hNc hNs dcs ?_
  intro p e s m args below meth c Q ls hx hb hml hts hown hK hZ hDS hW hl hend
  have hl : lv_has ls 3 [(0, .ref lo), (1, .ref b.sm), (2, .int (nI k))] := hl
  refine lv_aload_n hx hb dL_passed_0 rfl (lv_at hl 0 rfl) ?_
  refine lv_iload_n hx hb dL_passed_1 rfl (lv_at hl 2 rfl) ?_
  refine u_pass ⟨hx, hb, hml, hown, hts⟩ hst hK hZ hW hok (by omega) h1 hk (cwV 1 hts gL_passed_X4_pass rfl rfl rfl (by decide +kernel) ⟨Nat.le_of_ble_eq_true rfl, Nat.le_of_ble_eq_true rfl⟩) hl.1 (Nat.le_of_ble_eq_true rfl) dL_passed_2 ⟨Nat.le_of_ble_eq_true rfl, Nat.le_of_ble_eq_true rfl⟩ (fun H locs hW => ?_)
  refine lv_aload_n hx hb dL_passed_5 rfl (lv_at hl 1 rfl) ?_
  refine lv_iload_n hx hb dL_passed_6 rfl (lv_at hl 2 rfl) ?_
  obtain ⟨a, Lc2, fc2, Ls2, fs2, hlo2, hY2, hM2, hNc2, hNs2, hNw2, dcs2, dcw2, dsw2, hPc2, hPs2, hPw2, hAc2, hAs2, hAw2, hS2⟩ := hW
  refine rk_V (As := [.int (nI k)]) (rest := [.int (hitK o k)]) ⟨hx, hb, hml, hown, hts⟩ (m_X5_pass_ l g Ls2 fs2 H.size hNs2 b o M k hM2 hok hM (by omega)) (cwV 1 hts gL_passed_X5_pass_ rfl rfl rfl (by decide +kernel) ⟨Nat.le_of_ble_eq_true rfl, Nat.le_of_ble_eq_true rfl⟩) hK hPs2 hAs2 hS2 hM2.L_sm hM2.f_sm rfl rfl hl.1 rfl (Nat.le_of_ble_eq_true rfl) dL_passed_7 ⟨Nat.le_of_ble_eq_true rfl, Nat.le_of_ble_eq_true rfl⟩ (fun r f3 H1 locs1 hr hP1 hkp _ hS1 => ?_)
  obtain ⟨rfl, hM3⟩ := hr
  refine lv_icmp_ne (tgt := 17) hx hb dL_passed_10 (by decide) (fun h => absurd rfl h) (fun _ => ?_)
  refine lv_iconst (v := 1) hx hb dL_passed_13 (by decide) ?_
  refine lv_goto (tgt := 18) hx hb dL_passed_14 (by decide) ?_
  exact hend 1 (itO o k) b [] (fun _ => eO 0 []) H1 locs1 _ _ _ _ rfl ⟨rfl, rfl⟩ ⟨a, Lc2, fc2, Ls2, f3, hlo2, hY2, hM3, hNc2, hNs2, List.nodup_nil, dcs2, fun _ _ => List.not_mem_nil, fun _ _ => List.not_mem_nil, hPc2.kp dcs2 hkp, hP1, PP.of (fun b hb => absurd hb List.not_mem_nil), hAc2, hAs2, fun _ h => absurd h List.not_mem_nil, hS1⟩ rfl (Nat.le_of_ble_eq_true rfl) (Nat.le_of_ble_eq_true rfl) dL_passed_18
