set_option maxHeartbeats 4000000 in
set_option maxRecDepth 100000 in
theorem lc_weigh {p : Program} {l : Launch} {e : Env} {s : State} {mi : MethodId} {args : Array Value} {below : List Frame} {meth : Method} {c : Code} {Q : State → Prop} {g : GG} {t b nS : Nat} {xs : Nat → Int32} {a : LgA} {m : MdA} {i M cells slots : Nat} {H : Heap} {locs : List Loc} {L : List Nat} {f : Nat → va_E} {D : LgD} {E : MdD} {ls : Array Slot} (C : LC p l s mi args c b nS xs g t) (hSy : Sy a m g t L f D E M) (hN : L.Nodup) (hP : PP g L f H) (hA : ∀ x ∈ L, AA [] s.heap.size x) (hS : va_S (AA [] s.heap.size) s.heap H locs) (hl : lv_has ls 9 (lvB i b a.lo m.mh m.oj)) (hi : i + 4 ≤ nS) (hM : M + 1000 < 2 ^ 30) (hd : D.d + 130 < 2 ^ 30) (hc : cells + 300 ≤ 601024) (hs : slots + 2000 ≤ 7293034) (kk : Cont p l e s mi args below meth c Q g t b a m i M D.d cells slots) : W p l e room_1 s mi args below meth c H locs cells slots Q (F0 mi 399 ls []) := by
  obtain ⟨hx, hb, hml, hown, hts, hK, hZ, hDS, hNC, hX, hbl, hst, hnS⟩ := C
  obtain ⟨h, hm, hAM⟩ := hSy
  have hA2 : ∀ q, s.heap.size ≤ q → AA [] s.heap.size q := fun _ h9 => Or.inr h9
  have hbA : ¬ AA [] s.heap.size b := fun z => z.elim (fun h9 => absurd h9 List.not_mem_nil) (fun h9 => by omega)
  have hl : lv_has ls 9 [(4, .int (nI i)), (3, .ref m.oj), (2, .ref m.mh), (1, .ref a.lo), (0, .ref b)] := hl
  refine lv_aload_n hx hb dL_law_399 rfl (lv_at hl 3 rfl) ?_
  refine sc_at (i := i) (j := 1) hx hb hX hbl hbA hS (by decide) (by omega) hnS (lv_at hl 4 rfl) (lv_at hl 0 rfl) dL_law_400 dL_law_401 dL_law_403 dL_law_404 dL_law_405 ?_
  refine sc_at (i := i) (j := 2) hx hb hX hbl hbA hS (by decide) (by omega) hnS (lv_at hl 4 rfl) (lv_at hl 0 rfl) dL_law_406 dL_law_407 dL_law_409 dL_law_410 dL_law_411 ?_
  refine sc_at (i := i) (j := 3) hx hb hX hbl hbA hS (by decide) (by omega) hnS (lv_at hl 4 rfl) (lv_at hl 0 rfl) dL_law_412 dL_law_413 dL_law_415 dL_law_416 dL_law_417 ?_
  refine lv_aload_n hx hb dL_law_418 rfl (lv_at hl 1 rfl) ?_
  refine lw_S (As := [.ref a.lo, .int (xs (i + 1)), .int (xs (i + 2)), .int (xs (i + 3)), .ref m.oj]) (rest := []) (hh := [(0, 12, 15, 13), (0, 12, 19, 15)]) ⟨hx, hb, hml, hown, hts⟩ (c_weigh l g L f _ hN t a.lo m.oj (xs (i + 1)) (xs (i + 2)) (xs (i + 3)) E.w _ _ (x_weigh l hst h hN hd (xs (i + 1)) (xs (i + 2)) (xs (i + 3))) h.L_lo h.f_lo hm.L_oj (pj_weigh h hm) (xe_weigh)) (vx_cwSW 5 hts gL_law_L_weigh rfl rfl rfl (by decide +kernel) ⟨Nat.le_of_ble_eq_true rfl, Nat.le_of_ble_eq_true rfl⟩) hK hZ hDS hNC hP hA hS rfl hl.1 rfl (Nat.le_of_ble_eq_true rfl) dL_law_419 ⟨by show cells + 3 ≤ 601024; omega, by show slots + 18 ≤ 7293034; omega⟩ (fun r L2 f1 H locs hG hr hP hS hA => ?_)
  obtain ⟨D1, w1, hB1, hM1, hR⟩ := mid_weigh h hm hr
  refine lv_istore (lv' := [(5, .int r), (4, .int (nI i)), (3, .ref m.oj), (2, .ref m.mh), (1, .ref a.lo), (0, .ref b)]) hx hb dL_law_422 hl (by decide) rfl (fun ls hl => ?_)
  refine lv_aload_n hx hb dL_law_424 rfl (lv_at hl 3 rfl) ?_
  refine sc_at (i := i) (j := 1) hx hb hX hbl hbA hS (by decide) (by omega) hnS (lv_at hl 5 rfl) (lv_at hl 1 rfl) dL_law_425 dL_law_426 dL_law_428 dL_law_429 dL_law_430 ?_
  refine sc_at (i := i) (j := 2) hx hb hX hbl hbA hS (by decide) (by omega) hnS (lv_at hl 5 rfl) (lv_at hl 1 rfl) dL_law_431 dL_law_432 dL_law_434 dL_law_435 dL_law_436 ?_
  refine sc_at (i := i) (j := 3) hx hb hX hbl hbA hS (by decide) (by omega) hnS (lv_at hl 5 rfl) (lv_at hl 1 rfl) dL_law_437 dL_law_438 dL_law_440 dL_law_441 dL_law_442 ?_
  refine rw_V (As := [.int (xs (i + 1)), .int (xs (i + 2)), .int (xs (i + 3))]) (rest := []) ⟨hx, hb, hml, hown, hts⟩ (y_weigh l hM1 hG.1 h.hn h.hnv hd (xs (i + 1)) (xs (i + 2)) (xs (i + 3)) _) (cwV 3 hts gL_law_X6_weigh rfl rfl rfl (by decide +kernel) ⟨Nat.le_of_ble_eq_true rfl, Nat.le_of_ble_eq_true rfl⟩) hK hP hA hA2 hS hM1.L_mh hM1.f_mh rfl rfl hl.1 rfl (Nat.le_of_ble_eq_true rfl) dL_law_443 ⟨by show cells + 3 ≤ 601024; omega, by show slots + 18 ≤ 7293034; omega⟩ (fun b1 f2 H locs hp hP hS => ?_)
  obtain ⟨D2, E2, M2, hSy2, hth, hok, hM2, hd2⟩ := fin_weigh h hB1 hM1 hAM hM hR hp
  refine lv_istore (lv' := [(6, .int b1), (5, .int r), (4, .int (nI i)), (3, .ref m.oj), (2, .ref m.mh), (1, .ref a.lo), (0, .ref b)]) hx hb dL_law_446 hl (by decide) rfl (fun ls hl => ?_)
  refine lv_aload_n hx hb dL_law_448 rfl (lv_at hl 4 rfl) ?_
  refine ro_V (As := []) (rest := []) ⟨hx, hb, hml, hown, hts⟩ (m_X6_thrown l g L2 f2 m.mh m.mg m.mr m.mk m.mn m.ms m.nw m.ah D2.n D2.nv E2.th hSy2.2.1.L_mh hSy2.2.1.f_mh) (cwV 0 hts gL_law_X6_thrown rfl rfl rfl (by decide +kernel) ⟨Nat.le_of_ble_eq_true rfl, Nat.le_of_ble_eq_true rfl⟩) hK hP hSy2.2.1.L_mh hSy2.2.1.f_mh rfl rfl hl.1 rfl (Nat.le_of_ble_eq_true rfl) dL_law_449 ⟨by show cells + 3 ≤ 601024; omega, by show slots + 18 ≤ 7293034; omega⟩ (fun q hq => ?_)
  rw [hth] at hq
  subst hq
  refine lv_iload hx hb dL_law_452 (lv_at hl 1 rfl) ?_
  refine lv_icmp_eq (tgt := 459) hx hb dL_law_454 (by decide) (fun _ => ?_) (fun h9 => absurd rfl h9)
  refine lv_iload hx hb dL_law_459 (lv_at hl 1 rfl) ?_
  have hend : W p l e room_1 s mi args below meth c H locs (cells + 3) (slots + 18) Q (F0 mi 476 ls []) := by
    refine lv_goto (tgt := 1266) hx hb dL_law_476 (by decide) ?_
    exact W.widen (by omega) (by omega) (kk L2 f2 D2 E2 M2 H locs ls hSy2 hG.1 hP hA hS (lv_sub hl [2, 3, 4, 5, 6] rfl) hM2 hd2)
  refine lv_if_ne (tgt := 476) hx hb dL_law_461 (by decide) (fun _ => hend) (fun h0 => ?_)
  refine lv_aload_n hx hb dL_law_464 rfl (lv_at hl 3 rfl) ?_
  refine lv_iconst (v := 0) hx hb dL_law_465 (by decide) ?_
  refine pj_ald hx hb hK hP hSy2.2.1.L_oj hSy2.2.1.f_oj dL_law_466 ?_
  refine lv_iload hx hb dL_law_467 (lv_at hl 0 rfl) ?_
  refine lv_i2l (v := b1.toInt64) hx hb dL_law_469 rfl ?_
  refine W.lcmp hx hb dL_law_470 ?_
  exact lv_if_eq (tgt := 476) hx hb dL_law_471 (by decide) (fun _ => hend) (fun h9 => absurd (cmp_0 (hok h0)) h9)
set_option maxHeartbeats 4000000 in
set_option maxRecDepth 100000 in
theorem lc_share {p : Program} {l : Launch} {e : Env} {s : State} {mi : MethodId} {args : Array Value} {below : List Frame} {meth : Method} {c : Code} {Q : State → Prop} {g : GG} {t b nS : Nat} {xs : Nat → Int32} {a : LgA} {m : MdA} {i M cells slots : Nat} {H : Heap} {locs : List Loc} {L : List Nat} {f : Nat → va_E} {D : LgD} {E : MdD} {ls : Array Slot} (C : LC p l s mi args c b nS xs g t) (hSy : Sy a m g t L f D E M) (hN : L.Nodup) (hP : PP g L f H) (hA : ∀ x ∈ L, AA [] s.heap.size x) (hS : va_S (AA [] s.heap.size) s.heap H locs) (hl : lv_has ls 9 (lvB i b a.lo m.mh m.oj)) (hi : i + 4 ≤ nS) (hM : M + 1000 < 2 ^ 30) (hd : D.d + 130 < 2 ^ 30) (hc : cells + 300 ≤ 601024) (hs : slots + 2000 ≤ 7293034) (kk : Cont p l e s mi args below meth c Q g t b a m i M D.d cells slots) : W p l e room_1 s mi args below meth c H locs cells slots Q (F0 mi 479 ls []) := by
  obtain ⟨hx, hb, hml, hown, hts, hK, hZ, hDS, hNC, hX, hbl, hst, hnS⟩ := C
  obtain ⟨h, hm, hAM⟩ := hSy
  have hA2 : ∀ q, s.heap.size ≤ q → AA [] s.heap.size q := fun _ h9 => Or.inr h9
  have hbA : ¬ AA [] s.heap.size b := fun z => z.elim (fun h9 => absurd h9 List.not_mem_nil) (fun h9 => by omega)
  have hl : lv_has ls 9 [(4, .int (nI i)), (3, .ref m.oj), (2, .ref m.mh), (1, .ref a.lo), (0, .ref b)] := hl
  refine lv_aload_n hx hb dL_law_479 rfl (lv_at hl 3 rfl) ?_
  refine sc_at (i := i) (j := 1) hx hb hX hbl hbA hS (by decide) (by omega) hnS (lv_at hl 4 rfl) (lv_at hl 0 rfl) dL_law_480 dL_law_481 dL_law_483 dL_law_484 dL_law_485 ?_
  refine sc_at (i := i) (j := 2) hx hb hX hbl hbA hS (by decide) (by omega) hnS (lv_at hl 4 rfl) (lv_at hl 0 rfl) dL_law_486 dL_law_487 dL_law_489 dL_law_490 dL_law_491 ?_
  refine lv_aload_n hx hb dL_law_492 rfl (lv_at hl 1 rfl) ?_
  refine lw_S (As := [.ref a.lo, .int (xs (i + 1)), .int (xs (i + 2)), .ref m.oj]) (rest := []) (hh := [(0, 10, 13, 13), (0, 10, 17, 15), (0, 10, 21, 24)]) ⟨hx, hb, hml, hown, hts⟩ (c_share l g L f _ hN t a.lo m.oj (xs (i + 1)) (xs (i + 2)) E.w _ _ (x_share l hst h hN hd (xs (i + 1)) (xs (i + 2))) h.L_lo h.f_lo hm.L_oj (pj_share h hm) (xe_share)) (vx_cwSW 4 hts gL_law_L_share rfl rfl rfl (by decide +kernel) ⟨Nat.le_of_ble_eq_true rfl, Nat.le_of_ble_eq_true rfl⟩) hK hZ hDS hNC hP hA hS rfl hl.1 rfl (Nat.le_of_ble_eq_true rfl) dL_law_493 ⟨by show cells + 4 ≤ 601024; omega, by show slots + 24 ≤ 7293034; omega⟩ (fun r L2 f1 H locs hG hr hP hS hA => ?_)
  obtain ⟨D1, w1, hB1, hM1, hR⟩ := mid_share h hm hr
  refine lv_istore (lv' := [(5, .int r), (4, .int (nI i)), (3, .ref m.oj), (2, .ref m.mh), (1, .ref a.lo), (0, .ref b)]) hx hb dL_law_496 hl (by decide) rfl (fun ls hl => ?_)
  refine lv_aload_n hx hb dL_law_498 rfl (lv_at hl 3 rfl) ?_
  refine sc_at (i := i) (j := 1) hx hb hX hbl hbA hS (by decide) (by omega) hnS (lv_at hl 5 rfl) (lv_at hl 1 rfl) dL_law_499 dL_law_500 dL_law_502 dL_law_503 dL_law_504 ?_
  refine sc_at (i := i) (j := 2) hx hb hX hbl hbA hS (by decide) (by omega) hnS (lv_at hl 5 rfl) (lv_at hl 1 rfl) dL_law_505 dL_law_506 dL_law_508 dL_law_509 dL_law_510 ?_
  refine rw_V (As := [.int (xs (i + 1)), .int (xs (i + 2))]) (rest := []) ⟨hx, hb, hml, hown, hts⟩ (y_share l hM1 hG.1 h.hn h.hnv hd (xs (i + 1)) (xs (i + 2)) _) (cwV 2 hts gL_law_X6_share rfl rfl rfl (by decide +kernel) ⟨Nat.le_of_ble_eq_true rfl, Nat.le_of_ble_eq_true rfl⟩) hK hP hA hA2 hS hM1.L_mh hM1.f_mh rfl rfl hl.1 rfl (Nat.le_of_ble_eq_true rfl) dL_law_511 ⟨by show cells + 4 ≤ 601024; omega, by show slots + 24 ≤ 7293034; omega⟩ (fun b1 f2 H locs hp hP hS => ?_)
  obtain ⟨D2, E2, M2, hSy2, hth, hok, hM2, hd2⟩ := fin_share h hB1 hM1 hAM hM hR hp
  refine lv_istore (lv' := [(6, .int b1), (5, .int r), (4, .int (nI i)), (3, .ref m.oj), (2, .ref m.mh), (1, .ref a.lo), (0, .ref b)]) hx hb dL_law_514 hl (by decide) rfl (fun ls hl => ?_)
  refine lv_aload_n hx hb dL_law_516 rfl (lv_at hl 4 rfl) ?_
  refine ro_V (As := []) (rest := []) ⟨hx, hb, hml, hown, hts⟩ (m_X6_thrown l g L2 f2 m.mh m.mg m.mr m.mk m.mn m.ms m.nw m.ah D2.n D2.nv E2.th hSy2.2.1.L_mh hSy2.2.1.f_mh) (cwV 0 hts gL_law_X6_thrown rfl rfl rfl (by decide +kernel) ⟨Nat.le_of_ble_eq_true rfl, Nat.le_of_ble_eq_true rfl⟩) hK hP hSy2.2.1.L_mh hSy2.2.1.f_mh rfl rfl hl.1 rfl (Nat.le_of_ble_eq_true rfl) dL_law_517 ⟨by show cells + 4 ≤ 601024; omega, by show slots + 24 ≤ 7293034; omega⟩ (fun q hq => ?_)
  rw [hth] at hq
  subst hq
  refine lv_iload hx hb dL_law_520 (lv_at hl 1 rfl) ?_
  refine lv_icmp_eq (tgt := 527) hx hb dL_law_522 (by decide) (fun _ => ?_) (fun h9 => absurd rfl h9)
  refine lv_iload hx hb dL_law_527 (lv_at hl 1 rfl) ?_
  have hend : W p l e room_1 s mi args below meth c H locs (cells + 4) (slots + 24) Q (F0 mi 544 ls []) := by
    refine lv_goto (tgt := 1266) hx hb dL_law_544 (by decide) ?_
    exact W.widen (by omega) (by omega) (kk L2 f2 D2 E2 M2 H locs ls hSy2 hG.1 hP hA hS (lv_sub hl [2, 3, 4, 5, 6] rfl) hM2 hd2)
  refine lv_if_ne (tgt := 544) hx hb dL_law_529 (by decide) (fun _ => hend) (fun h0 => ?_)
  refine lv_aload_n hx hb dL_law_532 rfl (lv_at hl 3 rfl) ?_
  refine lv_iconst (v := 0) hx hb dL_law_533 (by decide) ?_
  refine pj_ald hx hb hK hP hSy2.2.1.L_oj hSy2.2.1.f_oj dL_law_534 ?_
  refine lv_iload hx hb dL_law_535 (lv_at hl 0 rfl) ?_
  refine lv_i2l (v := b1.toInt64) hx hb dL_law_537 rfl ?_
  refine W.lcmp hx hb dL_law_538 ?_
  exact lv_if_eq (tgt := 544) hx hb dL_law_539 (by decide) (fun _ => hend) (fun h9 => absurd (cmp_0 (hok h0)) h9)
set_option maxHeartbeats 4000000 in
set_option maxRecDepth 100000 in
theorem lc_says {p : Program} {l : Launch} {e : Env} {s : State} {mi : MethodId} {args : Array Value} {below : List Frame} {meth : Method} {c : Code} {Q : State → Prop} {g : GG} {t b nS : Nat} {xs : Nat → Int32} {a : LgA} {m : MdA} {i M cells slots : Nat} {H : Heap} {locs : List Loc} {L : List Nat} {f : Nat → va_E} {D : LgD} {E : MdD} {ls : Array Slot} (C : LC p l s mi args c b nS xs g t) (hSy : Sy a m g t L f D E M) (hN : L.Nodup) (hP : PP g L f H) (hA : ∀ x ∈ L, AA [] s.heap.size x) (hS : va_S (AA [] s.heap.size) s.heap H locs) (hl : lv_has ls 9 (lvB i b a.lo m.mh m.oj)) (hi : i + 4 ≤ nS) (hM : M + 1000 < 2 ^ 30) (hd : D.d + 130 < 2 ^ 30) (hc : cells + 300 ≤ 601024) (hs : slots + 2000 ≤ 7293034) (kk : Cont p l e s mi args below meth c Q g t b a m i M D.d cells slots) : W p l e room_1 s mi args below meth c H locs cells slots Q (F0 mi 547 ls []) := by
  obtain ⟨hx, hb, hml, hown, hts, hK, hZ, hDS, hNC, hX, hbl, hst, hnS⟩ := C
  obtain ⟨h, hm, hAM⟩ := hSy
  have hA2 : ∀ q, s.heap.size ≤ q → AA [] s.heap.size q := fun _ h9 => Or.inr h9
  have hbA : ¬ AA [] s.heap.size b := fun z => z.elim (fun h9 => absurd h9 List.not_mem_nil) (fun h9 => by omega)
  have hl : lv_has ls 9 [(4, .int (nI i)), (3, .ref m.oj), (2, .ref m.mh), (1, .ref a.lo), (0, .ref b)] := hl
  refine lv_aload_n hx hb dL_law_547 rfl (lv_at hl 3 rfl) ?_
  refine sc_at (i := i) (j := 1) hx hb hX hbl hbA hS (by decide) (by omega) hnS (lv_at hl 4 rfl) (lv_at hl 0 rfl) dL_law_548 dL_law_549 dL_law_551 dL_law_552 dL_law_553 ?_
  refine sc_at (i := i) (j := 2) hx hb hX hbl hbA hS (by decide) (by omega) hnS (lv_at hl 4 rfl) (lv_at hl 0 rfl) dL_law_554 dL_law_555 dL_law_557 dL_law_558 dL_law_559 ?_
  refine lv_aload_n hx hb dL_law_560 rfl (lv_at hl 1 rfl) ?_
  refine lw_S (As := [.ref a.lo, .int (xs (i + 1)), .int (xs (i + 2)), .ref m.oj]) (rest := []) (hh := [(0, 17, 20, 13), (0, 17, 24, 15)]) ⟨hx, hb, hml, hown, hts⟩ (c_says l g L f _ hN t a.lo m.oj (xs (i + 1)) (xs (i + 2)) E.w _ _ (x_says l hst h hN hd (xs (i + 1)) (xs (i + 2))) h.L_lo h.f_lo hm.L_oj (pj_says h hm) (xe_says)) (vx_cwSW 4 hts gL_law_L_says rfl rfl rfl (by decide +kernel) ⟨Nat.le_of_ble_eq_true rfl, Nat.le_of_ble_eq_true rfl⟩) hK hZ hDS hNC hP hA hS rfl hl.1 rfl (Nat.le_of_ble_eq_true rfl) dL_law_561 ⟨by show cells + 2 ≤ 601024; omega, by show slots + 12 ≤ 7293034; omega⟩ (fun r L2 f1 H locs hG hr hP hS hA => ?_)
  obtain ⟨D1, w1, hB1, hM1, hR⟩ := mid_says h hm hr
  refine lv_istore (lv' := [(5, .int r), (4, .int (nI i)), (3, .ref m.oj), (2, .ref m.mh), (1, .ref a.lo), (0, .ref b)]) hx hb dL_law_564 hl (by decide) rfl (fun ls hl => ?_)
  refine lv_aload_n hx hb dL_law_566 rfl (lv_at hl 3 rfl) ?_
  refine sc_at (i := i) (j := 1) hx hb hX hbl hbA hS (by decide) (by omega) hnS (lv_at hl 5 rfl) (lv_at hl 1 rfl) dL_law_567 dL_law_568 dL_law_570 dL_law_571 dL_law_572 ?_
  refine sc_at (i := i) (j := 2) hx hb hX hbl hbA hS (by decide) (by omega) hnS (lv_at hl 5 rfl) (lv_at hl 1 rfl) dL_law_573 dL_law_574 dL_law_576 dL_law_577 dL_law_578 ?_
  refine rw_V (As := [.int (xs (i + 1)), .int (xs (i + 2))]) (rest := []) ⟨hx, hb, hml, hown, hts⟩ (y_says l hM1 hG.1 h.hn h.hnv hd (xs (i + 1)) (xs (i + 2)) _) (cwV 2 hts gL_law_X6_says rfl rfl rfl (by decide +kernel) ⟨Nat.le_of_ble_eq_true rfl, Nat.le_of_ble_eq_true rfl⟩) hK hP hA hA2 hS hM1.L_mh hM1.f_mh rfl rfl hl.1 rfl (Nat.le_of_ble_eq_true rfl) dL_law_579 ⟨by show cells + 2 ≤ 601024; omega, by show slots + 12 ≤ 7293034; omega⟩ (fun b1 f2 H locs hp hP hS => ?_)
  obtain ⟨D2, E2, M2, hSy2, hth, hok, hM2, hd2⟩ := fin_says h hB1 hM1 hAM hM hR hp
  refine lv_istore (lv' := [(6, .int b1), (5, .int r), (4, .int (nI i)), (3, .ref m.oj), (2, .ref m.mh), (1, .ref a.lo), (0, .ref b)]) hx hb dL_law_582 hl (by decide) rfl (fun ls hl => ?_)
  refine lv_aload_n hx hb dL_law_584 rfl (lv_at hl 4 rfl) ?_
  refine ro_V (As := []) (rest := []) ⟨hx, hb, hml, hown, hts⟩ (m_X6_thrown l g L2 f2 m.mh m.mg m.mr m.mk m.mn m.ms m.nw m.ah D2.n D2.nv E2.th hSy2.2.1.L_mh hSy2.2.1.f_mh) (cwV 0 hts gL_law_X6_thrown rfl rfl rfl (by decide +kernel) ⟨Nat.le_of_ble_eq_true rfl, Nat.le_of_ble_eq_true rfl⟩) hK hP hSy2.2.1.L_mh hSy2.2.1.f_mh rfl rfl hl.1 rfl (Nat.le_of_ble_eq_true rfl) dL_law_585 ⟨by show cells + 2 ≤ 601024; omega, by show slots + 12 ≤ 7293034; omega⟩ (fun q hq => ?_)
  rw [hth] at hq
  subst hq
  refine lv_iload hx hb dL_law_588 (lv_at hl 1 rfl) ?_
  refine lv_icmp_eq (tgt := 595) hx hb dL_law_590 (by decide) (fun _ => ?_) (fun h9 => absurd rfl h9)
  refine lv_iload hx hb dL_law_595 (lv_at hl 1 rfl) ?_
  have hend : W p l e room_1 s mi args below meth c H locs (cells + 2) (slots + 12) Q (F0 mi 619 ls []) := by
    refine lv_goto (tgt := 1266) hx hb dL_law_619 (by decide) ?_
    exact W.widen (by omega) (by omega) (kk L2 f2 D2 E2 M2 H locs ls hSy2 hG.1 hP hA hS (lv_sub hl [2, 3, 4, 5, 6] rfl) hM2 hd2)
  refine lv_if_ne (tgt := 619) hx hb dL_law_597 (by decide) (fun _ => hend) (fun h0 => ?_)
  refine lv_aload_n hx hb dL_law_600 rfl (lv_at hl 3 rfl) ?_
  refine lv_iconst (v := 0) hx hb dL_law_601 (by decide) ?_
  refine pj_ald hx hb hK hP hSy2.2.1.L_oj hSy2.2.1.f_oj dL_law_602 ?_
  refine lv_iload hx hb dL_law_603 (lv_at hl 0 rfl) ?_
  refine lv_if_eq (tgt := 612) hx hb dL_law_605 (by decide) (fun hb1 => ?_) (fun hb1 => ?_)
  · refine lv_lconst (v := 0) hx hb dL_law_612 (by decide) ?_
    refine W.lcmp hx hb dL_law_613 ?_
    exact lv_if_eq (tgt := 619) hx hb dL_law_614 (by decide) (fun _ => hend) (fun h9 => absurd (cmp_0 ((hok h0).trans (if_pos hb1))) h9)
  · refine lv_lconst (v := 1) hx hb dL_law_608 (by decide) ?_
    refine lv_goto (tgt := 613) hx hb dL_law_609 (by decide) ?_
    refine W.lcmp hx hb dL_law_613 ?_
    exact lv_if_eq (tgt := 619) hx hb dL_law_614 (by decide) (fun _ => hend) (fun h9 => absurd (cmp_0 ((hok h0).trans (if_neg hb1))) h9)
set_option maxHeartbeats 4000000 in
set_option maxRecDepth 100000 in
theorem lc_told {p : Program} {l : Launch} {e : Env} {s : State} {mi : MethodId} {args : Array Value} {below : List Frame} {meth : Method} {c : Code} {Q : State → Prop} {g : GG} {t b nS : Nat} {xs : Nat → Int32} {a : LgA} {m : MdA} {i M cells slots : Nat} {H : Heap} {locs : List Loc} {L : List Nat} {f : Nat → va_E} {D : LgD} {E : MdD} {ls : Array Slot} (C : LC p l s mi args c b nS xs g t) (hSy : Sy a m g t L f D E M) (hN : L.Nodup) (hP : PP g L f H) (hA : ∀ x ∈ L, AA [] s.heap.size x) (hS : va_S (AA [] s.heap.size) s.heap H locs) (hl : lv_has ls 9 (lvB i b a.lo m.mh m.oj)) (hi : i + 4 ≤ nS) (hM : M + 1000 < 2 ^ 30) (hd : D.d + 130 < 2 ^ 30) (hc : cells + 300 ≤ 601024) (hs : slots + 2000 ≤ 7293034) (kk : Cont p l e s mi args below meth c Q g t b a m i M D.d cells slots) : W p l e room_1 s mi args below meth c H locs cells slots Q (F0 mi 622 ls []) := by
  obtain ⟨hx, hb, hml, hown, hts, hK, hZ, hDS, hNC, hX, hbl, hst, hnS⟩ := C
  obtain ⟨h, hm, hAM⟩ := hSy
  have hA2 : ∀ q, s.heap.size ≤ q → AA [] s.heap.size q := fun _ h9 => Or.inr h9
  have hbA : ¬ AA [] s.heap.size b := fun z => z.elim (fun h9 => absurd h9 List.not_mem_nil) (fun h9 => by omega)
  have hl : lv_has ls 9 [(4, .int (nI i)), (3, .ref m.oj), (2, .ref m.mh), (1, .ref a.lo), (0, .ref b)] := hl
  refine lv_aload_n hx hb dL_law_622 rfl (lv_at hl 3 rfl) ?_
  refine sc_at (i := i) (j := 1) hx hb hX hbl hbA hS (by decide) (by omega) hnS (lv_at hl 4 rfl) (lv_at hl 0 rfl) dL_law_623 dL_law_624 dL_law_626 dL_law_627 dL_law_628 ?_
  refine sc_at (i := i) (j := 2) hx hb hX hbl hbA hS (by decide) (by omega) hnS (lv_at hl 4 rfl) (lv_at hl 0 rfl) dL_law_629 dL_law_630 dL_law_632 dL_law_633 dL_law_634 ?_
  refine lv_aload_n hx hb dL_law_635 rfl (lv_at hl 1 rfl) ?_
  refine lw_S (As := [.ref a.lo, .int (xs (i + 1)), .int (xs (i + 2)), .ref m.oj]) (rest := []) (hh := [(0, 10, 13, 13)]) ⟨hx, hb, hml, hown, hts⟩ (c_told l g L f _ hN t a.lo m.oj (xs (i + 1)) (xs (i + 2)) E.w _ _ (x_told l hst h hN hd (xs (i + 1)) (xs (i + 2))) h.L_lo h.f_lo hm.L_oj (pj_told h hm) (xe_told)) (vx_cwSW 4 hts gL_law_L_told rfl rfl rfl (by decide +kernel) ⟨Nat.le_of_ble_eq_true rfl, Nat.le_of_ble_eq_true rfl⟩) hK hZ hDS hNC hP hA hS rfl hl.1 rfl (Nat.le_of_ble_eq_true rfl) dL_law_636 ⟨by show cells + 2 ≤ 601024; omega, by show slots + 12 ≤ 7293034; omega⟩ (fun r L2 f1 H locs hG hr hP hS hA => ?_)
  obtain ⟨D1, w1, hB1, hM1, hR⟩ := mid_told h hm hr
  refine lv_istore (lv' := [(5, .int r), (4, .int (nI i)), (3, .ref m.oj), (2, .ref m.mh), (1, .ref a.lo), (0, .ref b)]) hx hb dL_law_639 hl (by decide) rfl (fun ls hl => ?_)
  refine lv_aload_n hx hb dL_law_641 rfl (lv_at hl 3 rfl) ?_
  refine sc_at (i := i) (j := 1) hx hb hX hbl hbA hS (by decide) (by omega) hnS (lv_at hl 5 rfl) (lv_at hl 1 rfl) dL_law_642 dL_law_643 dL_law_645 dL_law_646 dL_law_647 ?_
  refine sc_at (i := i) (j := 2) hx hb hX hbl hbA hS (by decide) (by omega) hnS (lv_at hl 5 rfl) (lv_at hl 1 rfl) dL_law_648 dL_law_649 dL_law_651 dL_law_652 dL_law_653 ?_
  refine rw_V (As := [.int (xs (i + 1)), .int (xs (i + 2))]) (rest := []) ⟨hx, hb, hml, hown, hts⟩ (y_told l hM1 hG.1 h.hn h.hnv hd (xs (i + 1)) (xs (i + 2)) _) (cwV 2 hts gL_law_X6_told rfl rfl rfl (by decide +kernel) ⟨Nat.le_of_ble_eq_true rfl, Nat.le_of_ble_eq_true rfl⟩) hK hP hA hA2 hS hM1.L_mh hM1.f_mh rfl rfl hl.1 rfl (Nat.le_of_ble_eq_true rfl) dL_law_654 ⟨by show cells + 2 ≤ 601024; omega, by show slots + 12 ≤ 7293034; omega⟩ (fun b1 f2 H locs hp hP hS => ?_)
  obtain ⟨D2, E2, M2, hSy2, hth, hok, hM2, hd2⟩ := fin_told h hB1 hM1 hAM hM hR hp
  refine lv_istore (lv' := [(6, .int b1), (5, .int r), (4, .int (nI i)), (3, .ref m.oj), (2, .ref m.mh), (1, .ref a.lo), (0, .ref b)]) hx hb dL_law_657 hl (by decide) rfl (fun ls hl => ?_)
  refine lv_aload_n hx hb dL_law_659 rfl (lv_at hl 4 rfl) ?_
  refine ro_V (As := []) (rest := []) ⟨hx, hb, hml, hown, hts⟩ (m_X6_thrown l g L2 f2 m.mh m.mg m.mr m.mk m.mn m.ms m.nw m.ah D2.n D2.nv E2.th hSy2.2.1.L_mh hSy2.2.1.f_mh) (cwV 0 hts gL_law_X6_thrown rfl rfl rfl (by decide +kernel) ⟨Nat.le_of_ble_eq_true rfl, Nat.le_of_ble_eq_true rfl⟩) hK hP hSy2.2.1.L_mh hSy2.2.1.f_mh rfl rfl hl.1 rfl (Nat.le_of_ble_eq_true rfl) dL_law_660 ⟨by show cells + 2 ≤ 601024; omega, by show slots + 12 ≤ 7293034; omega⟩ (fun q hq => ?_)
  rw [hth] at hq
  subst hq
  refine lv_iload hx hb dL_law_663 (lv_at hl 1 rfl) ?_
  refine lv_icmp_eq (tgt := 670) hx hb dL_law_665 (by decide) (fun _ => ?_) (fun h9 => absurd rfl h9)
  refine lv_iload hx hb dL_law_670 (lv_at hl 1 rfl) ?_
  have hend : W p l e room_1 s mi args below meth c H locs (cells + 2) (slots + 12) Q (F0 mi 687 ls []) := by
    refine lv_goto (tgt := 1266) hx hb dL_law_687 (by decide) ?_
    exact W.widen (by omega) (by omega) (kk L2 f2 D2 E2 M2 H locs ls hSy2 hG.1 hP hA hS (lv_sub hl [2, 3, 4, 5, 6] rfl) hM2 hd2)
  refine lv_if_ne (tgt := 687) hx hb dL_law_672 (by decide) (fun _ => hend) (fun h0 => ?_)
  refine lv_aload_n hx hb dL_law_675 rfl (lv_at hl 3 rfl) ?_
  refine lv_iconst (v := 0) hx hb dL_law_676 (by decide) ?_
  refine pj_ald hx hb hK hP hSy2.2.1.L_oj hSy2.2.1.f_oj dL_law_677 ?_
  refine lv_iload hx hb dL_law_678 (lv_at hl 0 rfl) ?_
  refine lv_i2l (v := b1.toInt64) hx hb dL_law_680 rfl ?_
  refine W.lcmp hx hb dL_law_681 ?_
  exact lv_if_eq (tgt := 687) hx hb dL_law_682 (by decide) (fun _ => hend) (fun h9 => absurd (cmp_0 (hok h0)) h9)
