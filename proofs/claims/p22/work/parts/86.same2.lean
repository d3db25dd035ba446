/-! ===== isSame ===== -/
set_option maxHeartbeats 8000000 in
set_option maxRecDepth 100000 in
theorem is_4 {p : Program} {l : Launch} {e : Env} {s : State} {m : MethodId} {args : Array Value} {below : List Frame} {meth : Method} {c : Code} {Q : State → Prop} {g : GG} {t lo : Nat} {L0 : List Nat} {b : SmA} {o : OB} {M cells slots : Nat} {H : Heap} {locs : List Loc} {ls : Array Slot}  (C : LK p l s m args c cX5_isSame 10 wsX5_isSame RX5 g t L0) (hok : OkO M o) (hM : M + 300 < 2 ^ 29) (hW : WD g t lo b o o [] (fun _ => eO 0 []) (AA L0 s.heap.size) s.heap H locs) (hl : lv_has ls 10 [(4, .int (sumN (fun u => (o.vs u).2.1) o.nv)), (3, .int (bestO o)), (0, .ref b.sm), (1, .ref lo)])  (hc : cells + 0 ≤ 400) (hs : slots + 0 ≤ 3000) (hend : ∀ d1, s.drawn.sameBut d1 lw_cs → ∀ (H : Heap) (locs : List Loc) (k n pc : Nat) (ls : Array Slot), va_S (AA L0 s.heap.size) s.heap H locs → k ≤ 400 → n ≤ 3000 → decode cX5_isSame pc = .ok (.ireturn, 1) → W p l e ({ frames := 9, cells := 400, slots := 3000, locals := 200 } : Room) (s.setDrawn d1) m args below meth c H locs k n Q (F0 m pc ls [.int 1])) : W p l e ({ frames := 9, cells := 400, slots := 3000, locals := 200 } : Room) s m args below meth c H locs cells slots Q (F0 m 461 ls []) := by
  have C0 := C
  obtain ⟨hx, hb, hml, hts, hown, hK, hZ, hDS, hst⟩ := C
  have hi_X5 : ∀ w ∈ u_ws RX5 TX5 6, w ∈ wsX5_isSame := by decide +kernel
  have hn := hok.hn
  have hnv := hok.hnv
  have hd := hok.hd
  refine lv_aload_n hx hb dX5_isSame_461 rfl (lv_at hl 3 rfl) ?_
  refine u_best ⟨hx, hb, hml, hown, hts⟩ hK hW (cwV 0 hts gX5_isSame_X4_best rfl rfl rfl (by decide +kernel) ⟨Nat.le_of_ble_eq_true rfl, Nat.le_of_ble_eq_true rfl⟩) hl.1 (Nat.le_of_ble_eq_true rfl) dX5_isSame_462 ⟨by show _ ≤ 400; omega, by show _ ≤ 3000; omega⟩  ?_
  refine lv_iload_n hx hb dX5_isSame_465 rfl (lv_at hl 1 rfl) ?_
  refine lv_icmp_ne (tgt := 503) hx hb dX5_isSame_466 (by decide) (fun h => absurd rfl h) (fun _ => ?_)
  refine lv_aload_n hx hb dX5_isSame_469 rfl (lv_at hl 3 rfl) ?_
  refine W.base ?_
  obtain ⟨hx, hb, hml, hts, hown, hK, hZ, hDS, hst⟩ := C0.drawn s.drawn
  refine u_mean (Drawn.sameBut.refl s.drawn lw_cs) ⟨hx, hb, hml, hown, hts⟩ hK hW (cwV 0 hts gX5_isSame_X4_mean rfl rfl rfl (by decide +kernel) ⟨Nat.le_of_ble_eq_true rfl, Nat.le_of_ble_eq_true rfl⟩) hl.1 (Nat.le_of_ble_eq_true rfl) dX5_isSame_470 ⟨by show _ ≤ 400; omega, by show _ ≤ 3000; omega⟩ (fun r470 H locs d1 hd1 hr470 hW => ?_)
  obtain ⟨hx, hb, hml, hts, hown, hK, hZ, hDS, hst⟩ := C0.drawn d1
  refine lv_aload_n hx hb dX5_isSame_473 rfl (lv_at hl 2 rfl) ?_
  obtain ⟨Ls9, fs9, hM9, hPs9⟩ := hW.sim
  refine pg_get (C := RX5) (T := TX5) (N := 6) hx hb hts hi_X5 hown hK hPs9 hM9.1 hM9.2.1 rfl 4 (by decide) (hts (.fieldLink RX5 22 "BarometerLeagueLaw$Sim" "villages" "[[I") (by decide +kernel)) (fun _ h9 => h9) rfl dX5_isSame_474 ?_
  obtain ⟨Ls9, fs9, hM9, hPs9⟩ := hW.sim
  refine pg_alen hx hb hK hPs9 hM9.L_sv hM9.f_sv 4 rfl (v := nI o.nv) rfl dX5_isSame_477 ?_
  refine lv_if_ne (tgt := 485) hx hb dX5_isSame_478 (by decide) (fun c478 => ?_) (fun c478 => ?_)
  · skip
    have c478 : ¬ o.nv = 0 := fun h => c478 ((nI_eq (a := o.nv) (b := 0) (by omega) (by omega)).mpr h)
    refine lv_iload hx hb dX5_isSame_485 (lv_at hl 0 rfl) ?_
    refine lv_i2d hx hb dX5_isSame_487 ?_
    refine lv_aload_n hx hb dX5_isSame_488 rfl (lv_at hl 2 rfl) ?_
    obtain ⟨Ls9, fs9, hM9, hPs9⟩ := hW.sim
    refine pg_get (C := RX5) (T := TX5) (N := 6) hx hb hts hi_X5 hown hK hPs9 hM9.1 hM9.2.1 rfl 4 (by decide) (hts (.fieldLink RX5 22 "BarometerLeagueLaw$Sim" "villages" "[[I") (by decide +kernel)) (fun _ h9 => h9) rfl dX5_isSame_489 ?_
    obtain ⟨Ls9, fs9, hM9, hPs9⟩ := hW.sim
    refine pg_alen hx hb hK hPs9 hM9.L_sv hM9.f_sv 4 rfl (v := nI o.nv) rfl dX5_isSame_492 ?_
    refine lv_i2d hx hb dX5_isSame_493 ?_
    refine lv_ddiv_any hd1 lw_bits hx hb dX5_isSame_494 (fun r494 d2 hal hd2 => ?_)
    obtain ⟨hx, hb, hml, hts, hown, hK, hZ, hDS, hst⟩ := C0.drawn d2
    refine lv_dcmp hx hb dX5_isSame_495 ?_
    rw [mean_two hnv hr470 (Or.inr ⟨c478, hal⟩)]
    refine lv_if_ne (tgt := 503) hx hb dX5_isSame_496 (by decide) (fun h => absurd h (by decide)) (fun _ => ?_)
    refine lv_iconst (v := 1) hx hb dX5_isSame_499 (by decide) ?_
    refine lv_goto (tgt := 504) hx hb dX5_isSame_500 (by decide) ?_
    exact hend d2 hd2 H locs _ _ _ _ hW.S (by omega) (by omega) dX5_isSame_504
  · skip
    have c478 : o.nv = 0 := (nI_eq (a := o.nv) (b := 0) (by omega) (by omega)).mp (show nI o.nv = nI 0 from c478)
    refine lv_dconst0 hx hb dX5_isSame_481 ?_
    refine lv_goto (tgt := 495) hx hb dX5_isSame_482 (by decide) ?_
    refine lv_dcmp hx hb dX5_isSame_495 ?_
    rw [mean_two hnv hr470 (Or.inl ⟨c478, rfl⟩)]
    refine lv_if_ne (tgt := 503) hx hb dX5_isSame_496 (by decide) (fun h => absurd h (by decide)) (fun _ => ?_)
    refine lv_iconst (v := 1) hx hb dX5_isSame_499 (by decide) ?_
    refine lv_goto (tgt := 504) hx hb dX5_isSame_500 (by decide) ?_
    exact hend d1 hd1 H locs _ _ _ _ hW.S (by omega) (by omega) dX5_isSame_504
abbrev SD (l : Launch) (g : GG) (t lo sm : Nat) (Lc : List Nat) (fc : Nat → va_E) (Ls : List Nat) (fs : Nat → va_E) (sz : Nat) : Prop := MetD lw_cs l yX5_isSame wsX5_isSame ({ frames := 9, cells := 400, slots := 3000, locals := 200 } : Room) (va_Pc [.ref sm, .ref lo] (dq t g Lc fc Ls fs sz)) (va_Qi (fun r (_ : Unit) => r = 1) (fun _ _ => True) (AA (Lc ++ Ls) sz)) 400 3000 (AA (Lc ++ Ls) sz)
set_option maxHeartbeats 4000000 in
theorem m_X5_isSame (l : Launch) (hst : l.stackTraces = false) (g : GG) (sz t lo : Nat) (Lc Ls : List Nat) (fc fs : Nat → va_E) (a : LgA) (b : SmA) (o : OB) (M : Nat) (hlo : a.lo = lo) (hY : SyO a g t Lc fc o) (hMs : SimO b g Ls fs o) (hNc : Lc.Nodup) (hNs : Ls.Nodup) (dcs : ∀ x ∈ Lc, x ∉ Ls) (hok : OkO M o) (hM : M + 300 < 2 ^ 29) : SD l g t lo b.sm Lc fc Ls fs sz := by
  refine MetD.ofW (cc := cX5_isSame) (maxL := 10) (ret := some .boolean) (by decide +kernel) rfl ?_
  intro p e s m args below meth c s₁ B hml hv hd0
  obtain ⟨rfl, ⟨hsz, hPc, hPs⟩, hK, hZ, hD⟩ := hv
  subst hsz
  have hl := lv_entry ([.ref b.sm, .ref lo] : List Value) (n := 10) (by simp [lg_sl, Value.category])
  rw [lg_entry_eq]
  have hlk := B.notSynchronized
  have C : LK p l s m _ c cX5_isSame 10 wsX5_isSame RX5 g t (Lc ++ Ls) := ⟨B.exec, B.bytes, hml, atoms_spec (ws := wsX5_isSame) B.pre, findClass_of_methodNamed B.named, hK, hZ, hD, hst⟩
  have hW : WD g t lo b o o [] (fun _ => eO 0 []) (AA (Lc ++ Ls) s.heap.size) s.heap s.heap [] := ⟨a, Lc, fc, Ls, fs, hlo, hY, hMs, hNc, hNs, List.nodup_nil, dcs, fun _ _ => List.not_mem_nil, fun _ _ => List.not_mem_nil, hPc, hPs, PP.of (fun b hb => absurd hb List.not_mem_nil), fun _ h => Or.inl (List.mem_append.mpr (Or.inl h)), fun _ h => Or.inl (List.mem_append.mpr (Or.inr h)), fun _ h => absurd h List.not_mem_nil, va_S.rf⟩
  refine is_1 C hok hM hW hl (by omega) (by omega) (fun H locs ls hW hl => ?_)
  refine is_2 C hok hM hW hl (by omega) (by omega) (fun H locs ls hW hl => ?_)
  refine is_3 C hok hM hW hl (by omega) (by omega) (fun H locs ls hW hl => ?_)
  exact is_4 C hok hM hW hl (by omega) (by omega) (fun d1 hd1 H locs k n pc ls hS hk hn hd => W.widen hk hn (W.endD hd1 (W.zret (ty := .boolean) B.exec B.bytes B.returns rfl (fun T ht hW2 => ⟨⟨1, (), rfl, rfl, trivial⟩, hS.F ht⟩) hS.2.2 hd hlk)))
