/-! ===== the law, piece C ===== -/
set_option maxHeartbeats 8000000 in
set_option maxRecDepth 100000 in
theorem lw_C {p : Program} {l : Launch} {e : Env} {s : State} {m : MethodId} {args : Array Value} {below : List Frame} {meth : Method} {c : Code} {Q : State → Prop} {g : GG} {t lo : Nat} {L0 : List Nat} {b : SmA} {o : OB} {M cells slots : Nat} {H : Heap} {locs : List Loc} {ls : Array Slot} {Lw : List Nat} {fw : Nat → va_E} {q8 q9 bs : Nat} {fa fb : Nat → Nat} {x3 x4 : Int32} {d0 : Drawn} (hd0 : s.drawn.sameBut d0 lw_cs) (C : LK p l s m args c cL_law 32 wsL_law RL g t L0) (hok : OkO M o) (hM : M + 300 < 2 ^ 28) (hW : WD g t lo b o o Lw fw (AA L0 s.heap.size) s.heap H locs) (hl : lv_has ls 32 [(13, .int (nI (bitP o o.nv))), (12, .int (countO o 5)), (11, .int (countO o 4)), (10, .int (countO o 3)), (9, .ref q9), (8, .ref q8), (7, .int (nI o.nv)), (6, .int (nI o.n)), (5, .int (nI o.d)), (4, .int x4), (3, .int x3), (2, .ref b.sm), (1, .ref lo), (0, .ref bs)])  (hc : cells + 10 ≤ 1200130) (hs : slots + 60 ≤ 5501080) (kk : ∀ (d1 : Drawn), s.drawn.sameBut d1 lw_cs → ∀ (H : Heap) (locs : List Loc) (ls : Array Slot), WD g t lo b o o Lw fw (AA L0 s.heap.size) s.heap H locs → lv_has ls 32 [(10, .int (countO o 3)), (9, .ref q9), (8, .ref q8), (7, .int (nI o.nv)), (6, .int (nI o.n)), (5, .int (nI o.d)), (4, .int x4), (3, .int x3), (2, .ref b.sm), (1, .ref lo), (0, .ref bs)] → W p l e room_1 (s.setDrawn d1) m args below meth c H locs (cells + 10) (slots + 60) Q (F0 m 437 ls [])) : W p l e room_1 (s.setDrawn d0) m args below meth c H locs cells slots Q (F0 m 370 ls []) := by
  have C0 := C
  obtain ⟨hx, hb, hml, hts, hown, hK, hZ, hDS, hst⟩ := C0.drawn d0
  have hi_X5 : ∀ w ∈ u_ws RX5 TX5 6, w ∈ wsL_law := by decide +kernel
  have hn := hok.hn
  have hnv := hok.hnv
  have hd := hok.hd
  refine lv_iload hx hb dL_law_370 (lv_at hl 3 rfl) ?_
  refine lv_aload_n hx hb dL_law_372 rfl (lv_at hl 12 rfl) ?_
  refine lv_iconst (v := 3) hx hb dL_law_373 (by decide) ?_
  refine u_count ⟨hx, hb, hml, hown, hts⟩ hst hK hZ hW hok (by omega) (k := 3) (by omega) (cwV 1 hts gL_law_X4_count rfl rfl rfl (by decide +kernel) ⟨Nat.le_of_ble_eq_true rfl, Nat.le_of_ble_eq_true rfl⟩) hl.1 (Nat.le_of_ble_eq_true rfl) dL_law_374 ⟨by show _ ≤ 1200130; omega, by show _ ≤ 5501080; omega⟩ (fun H locs hW => ?_)
  refine lv_icmp_ne (tgt := 435) hx hb dL_law_377 (by decide) (fun h => absurd rfl h) (fun _ => ?_)
  refine lv_iload hx hb dL_law_380 (lv_at hl 2 rfl) ?_
  refine lv_aload_n hx hb dL_law_382 rfl (lv_at hl 12 rfl) ?_
  refine lv_iconst (v := 4) hx hb dL_law_383 (by decide) ?_
  refine u_count ⟨hx, hb, hml, hown, hts⟩ hst hK hZ hW hok (by omega) (k := 4) (by omega) (cwV 1 hts gL_law_X4_count rfl rfl rfl (by decide +kernel) ⟨Nat.le_of_ble_eq_true rfl, Nat.le_of_ble_eq_true rfl⟩) hl.1 (Nat.le_of_ble_eq_true rfl) dL_law_384 ⟨by show _ ≤ 1200130; omega, by show _ ≤ 5501080; omega⟩ (fun H locs hW => ?_)
  refine lv_icmp_ne (tgt := 435) hx hb dL_law_387 (by decide) (fun h => absurd rfl h) (fun _ => ?_)
  refine lv_iload hx hb dL_law_390 (lv_at hl 1 rfl) ?_
  refine lv_aload_n hx hb dL_law_392 rfl (lv_at hl 12 rfl) ?_
  refine lv_iconst (v := 5) hx hb dL_law_393 (by decide) ?_
  refine u_count ⟨hx, hb, hml, hown, hts⟩ hst hK hZ hW hok (by omega) (k := 5) (by omega) (cwV 1 hts gL_law_X4_count rfl rfl rfl (by decide +kernel) ⟨Nat.le_of_ble_eq_true rfl, Nat.le_of_ble_eq_true rfl⟩) hl.1 (Nat.le_of_ble_eq_true rfl) dL_law_394 ⟨by show _ ≤ 1200130; omega, by show _ ≤ 5501080; omega⟩ (fun H locs hW => ?_)
  refine lv_icmp_ne (tgt := 435) hx hb dL_law_397 (by decide) (fun h => absurd rfl h) (fun _ => ?_)
  refine lv_iload hx hb dL_law_400 (lv_at hl 0 rfl) ?_
  refine lv_iconst (v := 2) hx hb dL_law_402 (by decide) ?_
  refine lv_iload hx hb dL_law_403 (lv_at hl 6 rfl) ?_
  refine lv_ishl hx hb dL_law_405 ?_
  refine lv_topi (fun v405 ev405 => ?_)
  refine lv_iconst (v := 2) hx hb dL_law_406 (by decide) ?_
  refine lv_isub hx hb dL_law_407 ?_
  refine lv_topi (fun v407 ev407 => ?_)
  rw [show nI (bitP o o.nv) = v407 by rw [ev407, ev405]; exact plc_n hok (by omega)]
  refine lv_icmp_ne (tgt := 435) hx hb dL_law_408 (by decide) (fun h => absurd rfl h) (fun _ => ?_)
  refine lv_aload_n hx hb dL_law_411 rfl (lv_at hl 12 rfl) ?_
  refine u_mean hd0 ⟨hx, hb, hml, hown, hts⟩ hK hW (cwV 0 hts gL_law_X4_mean rfl rfl rfl (by decide +kernel) ⟨Nat.le_of_ble_eq_true rfl, Nat.le_of_ble_eq_true rfl⟩) hl.1 (Nat.le_of_ble_eq_true rfl) dL_law_412 ⟨by show _ ≤ 1200130; omega, by show _ ≤ 5501080; omega⟩ (fun r412 H locs d1 hd1 hr412 hW => ?_)
  obtain ⟨hx, hb, hml, hts, hown, hK, hZ, hDS, hst⟩ := C0.drawn d1
  refine lv_iload hx hb dL_law_415 (lv_at hl 6 rfl) ?_
  refine lv_if_ne (tgt := 424) hx hb dL_law_417 (by decide) (fun c417 => ?_) (fun c417 => ?_)
  · skip
    have c417 : ¬ o.nv = 0 := fun h => c417 ((nI_eq (a := o.nv) (b := 0) (by omega) (by omega)).mpr h)
    refine lv_iload hx hb dL_law_424 (lv_at hl 3 rfl) ?_
    refine lv_i2d hx hb dL_law_426 ?_
    refine lv_iload hx hb dL_law_427 (lv_at hl 6 rfl) ?_
    refine lv_i2d hx hb dL_law_429 ?_
    refine lv_ddiv_any hd1 lw_bits hx hb dL_law_430 (fun r430 d2 hal hd2 => ?_)
    obtain ⟨hx, hb, hml, hts, hown, hK, hZ, hDS, hst⟩ := C0.drawn d2
    refine lv_dcmp hx hb dL_law_431 ?_
    rw [mean_two hnv hr412 (Or.inr ⟨c417, hal⟩)]
    refine lv_if_eq (tgt := 437) hx hb dL_law_432 (by decide) (fun _ => ?_) (fun h => absurd (by decide) h)
    exact W.widen (by omega) (by omega) (kk d2 hd2 H locs ls hW (lv_sub hl [3, 4, 5, 6, 7, 8, 9, 10, 11, 12, 13] rfl))
  · skip
    have c417 : o.nv = 0 := (nI_eq (a := o.nv) (b := 0) (by omega) (by omega)).mp (show nI o.nv = nI 0 from c417)
    refine lv_dconst0 hx hb dL_law_420 ?_
    refine lv_goto (tgt := 431) hx hb dL_law_421 (by decide) ?_
    refine lv_dcmp hx hb dL_law_431 ?_
    rw [mean_two hnv hr412 (Or.inl ⟨c417, rfl⟩)]
    refine lv_if_eq (tgt := 437) hx hb dL_law_432 (by decide) (fun _ => ?_) (fun h => absurd (by decide) h)
    exact W.widen (by omega) (by omega) (kk d1 hd1 H locs ls hW (lv_sub hl [3, 4, 5, 6, 7, 8, 9, 10, 11, 12, 13] rfl))
