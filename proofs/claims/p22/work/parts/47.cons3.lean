set_option maxHeartbeats 4000000 in
set_option maxRecDepth 100000 in
theorem m_X4_init (l : Launch) (g : GG) (L : List Nat) (f : Nat → va_E) (sz : Nat) (hN : L.Nodup) (t : Nat) (lo : Nat) (hL_lo : lo ∈ L) (hf_lo : f lo = eO 5 [.null, .null, .null, .int 0, .null, .null]) : AV l g yX4_init wsX4_init 4 73 140 8400 t L f sz [.ref lo] (fun L2 f2 => ∃ we ga ra al rv pa sy rt tp ad aw tad taw, (∀ x ∈ [we, ga, ra, al, rv, pa, sy, rt, tp], x ∉ L ∧ x ∈ L2) ∧ rv ≠ rt ∧ ga ≠ ra ∧ f2 lo = eO 5 [.ref we, .ref al, .ref rv, .int (nI 0), .ref sy, .ref rt] ∧ f2 we = eO 4 [.ref ga, .ref ra] ∧ f2 ga = eI g 12 (mapN (fun _ _ => 30) (fun _ => 0) 12) ∧ f2 ra = eZ g 12 (fun _ => 0) ∧ f2 al = eO 0 [.int 0, .ref t, .int (nI 0)] ∧ f2 rv = eO 3 [.ref pa, .int (nI 0)] ∧ f2 pa = eV g 6 (vilR ad 6) ∧ f2 sy = eI g 8 (fun _ => 0) ∧ f2 rt = eO 3 [.ref tp, .int (nI 0)] ∧ f2 tp = eV g 9 (vilR tad 9) ∧ Vils g L2 f2 6 ad aw vs0 ∧ Dst 6 ad aw ∧ Vils g L2 f2 9 tad taw vs0 ∧ Dst 9 tad taw ∧ (∀ v, v < 6 → Off 9 tad taw (ad v) ∧ Off 9 tad taw (aw v)) ∧ (∀ v, v < 6 → sy ≠ aw v) ∧ (∀ v, v < 9 → sy ≠ taw v) ∧ (∀ v, v < 6 → ad v ∉ L ∧ aw v ∉ L) ∧ (∀ v, v < 9 → tad v ∉ L ∧ taw v ∉ L) ∧ FrN L f f2 [lo]) := by
  refine AV.start (cc := cX4_init) (maxL := 1) (by decide +kernel) rfl (by simp [lg_sl, Value.category]) ?_
  intro p e s m args below meth c Q ls hx hb hml hts hown hnm hS hP hK hDS hl hend
  have hA : ∀ a ∈ L, AA L s.heap.size a := fun _ h => Or.inl h
  have hA2 : ∀ q, s.heap.size ≤ q → AA L s.heap.size q := fun _ h => Or.inr h
  have hSub : ∀ a ∈ L, a ∈ L := fun _ h => h
  have hl : lv_has ls 1 [(0, .ref lo)] := hl
  have hi_Jx4a65c : ∀ w ∈ u_ws RJx4a65c TJx4a65c 3, w ∈ wsX4_init := by decide +kernel
  have hi_X2 : ∀ w ∈ u_ws RX2 TX2 2, w ∈ wsX4_init := by decide +kernel
  have hi_X3 : ∀ w ∈ u_ws RX3 TX3 2, w ∈ wsX4_init := by decide +kernel
  have hi_X4 : ∀ w ∈ u_ws RX4 TX4 6, w ∈ wsX4_init := by decide +kernel
  have hFr : FrN L f f [lo] := FrN.rf
  have h0f_lo := hf_lo
  refine lv_aload_n hx hb dX4_init_0 rfl (lv_at hl 0 rfl) ?_
  refine W.objInit hx hb hown (hts (.methodLink RX4 1 objectInit) (by decide +kernel)) (hts (.instanceMethod objectInit) (by decide +kernel)) (hts _ (List.mem_of_getElem? (i := 3) rfl)) rfl (by rw [hml]; exact hl.1) rfl dX4_init_1 (Nat.le_of_ble_eq_true rfl) (Nat.le_of_ble_eq_true rfl) ?_
  refine W.eq (g2 := F0 m 4 ls []) rfl ?_
  refine lv_aload_n hx hb dX4_init_4 rfl (lv_at hl 0 rfl) ?_
  refine pg_new (ci := 4) (fs := [.null, .null]) (C := RX3) (T := TX3) (N := 2) hx hb hts hi_X3 tyX3 tyX3_ok hown (hts (.classLink RX4 7 RX3) (by decide +kernel)) (hts (.instantiable RX3 2) (by decide +kernel)) (hts (.initialized RX3) (by decide +kernel)) hK hP hN hA hA2 hS rfl (fun j hj => by rcases (show j = 0 ∨ j = 1 by omega) with rfl | rfl <;> rfl) (by show 0 + 1 ≤ 140; omega) (by show 60 * (0) + 2 ≤ 8400; omega) dX4_init_5 (fun q5 H hn0_q5 hA_q5 hP hS => ?_)
  obtain ⟨L5, eL5⟩ : ∃ z, z = q5 :: L := ⟨_, rfl⟩
  obtain ⟨f5, ef5⟩ : ∃ z, z = va_up f q5 (eO 4 [.null, .null]) := ⟨_, rfl⟩
  rw [← eL5, ← ef5] at hP
  have hn_q5 : q5 ∉ L := fun h => hn0_q5 (hSub _ h)
  have n_lo_q5 : lo ≠ q5 := fun z => hn0_q5 (z ▸ hL_lo)
  have hf_lo : f5 lo = eO 5 [.null, .null, .null, .int 0, .null, .null] := by rw [ef5, va_up_ne _ _ n_lo_q5]; exact hf_lo
  have hL_lo : lo ∈ L5 := by rw [eL5]; exact List.mem_cons_of_mem _ hL_lo
  have hf_q5 : f5 q5 = eO 4 [.null, .null] := by rw [ef5]; exact va_up_self _ _ _
  have hL_q5 : q5 ∈ L5 := by rw [eL5]; exact List.mem_cons_self
  have hN : L5.Nodup := by rw [eL5]; exact List.nodup_cons.mpr ⟨hn0_q5, hN⟩
  have hA : ∀ a ∈ L5, AA L s.heap.size a := by rw [eL5]; exact fa_c hA_q5 hA
  have hSub : ∀ a ∈ L, a ∈ L5 := by rw [eL5]; exact fun a h => List.mem_cons_of_mem _ (hSub a h)
  replace hFr : FrN L f f5 [lo] := by rw [ef5]; exact hFr.up (Or.inr hn_q5)
  refine W.widen (k := 1) (n := 60 * (1)) (by omega) (by omega) ?_
  refine lv_dup hx hb dX4_init_8 rfl ?_
  refine av_I (As := []) (rest := [.ref q5, .ref lo]) ⟨hx, hb, hml, hown, hts⟩ (m_X3_init l g L5 f5 _ hN _ _ hL_q5 hf_q5) (cwI 0 hts gX4_init_X3_init rfl rfl rfl (hts (.initialized RX3) (by decide +kernel)) (hts (.methodLink RX4 9 yX3_init) (by decide +kernel)) (hts (.instanceMethod yX3_init) (by decide +kernel)) rfl (by decide +kernel) ⟨Nat.le_of_ble_eq_true rfl, Nat.le_of_ble_eq_true rfl⟩) hK hDS hP hA hS rfl hl.1 rfl (Nat.le_of_ble_eq_true rfl) dX4_init_9 ⟨(by show 1 + 2 ≤ 140; omega), (by show 60 * (1) + 120 ≤ 8400; omega)⟩ (fun L9 f9 H locs hG9 hr9 hP hS hA => ?_)
  refine W.widen (k := 3) (n := 60 * (3)) (by omega) (by omega) ?_
  obtain ⟨wa, wb, hn0_wa, hn0_wb, hL_wa, hL_wb, n_wa_wb, hc9, hf_wa, hf_wb, hw9⟩ := hr9
  have n_lo_wa : lo ≠ wa := fun z => hn0_wa (z ▸ hL_lo)
  have n_q5_wa : q5 ≠ wa := fun z => hn0_wa (z ▸ hL_q5)
  have hn_wa : wa ∉ L := fun h => hn0_wa (hSub _ h)
  have n_lo_wb : lo ≠ wb := fun z => hn0_wb (z ▸ hL_lo)
  have n_q5_wb : q5 ≠ wb := fun z => hn0_wb (z ▸ hL_q5)
  have hn_wb : wb ∉ L := fun h => hn0_wb (hSub _ h)
  have hf_lo : f9 lo = eO 5 [.null, .null, .null, .int 0, .null, .null] := hw9.get hL_lo hf_lo (nm_c n_lo_q5 (List.not_mem_nil))
  have hL_lo : lo ∈ L9 := hG9.2.1 _ hL_lo
  have hL_q5 : q5 ∈ L9 := hG9.2.1 _ hL_q5
  replace hFr : FrN L f f9 [lo] := hFr.tr2 hSub hw9 (fa_c (Or.inr hn_q5) fa_n)
  have hN := hG9.1
  have hSub : ∀ a ∈ L, a ∈ L9 := fun a h => hG9.2.1 a (hSub a h)
  have hf_q5 : f9 q5 = eO 4 [.ref wa, .ref wb] := hc9
  refine pg_putF (ty := (.object "BarometerLeague$Weather")) (C := RX4) (T := TX4) (N := 6) hx hb hts hi_X4 tyX4 tyX4_ok nmX4 hown hK hP hN hA hS hL_lo hf_lo rfl 0 (by decide) (hts (.fieldLink RX4 10 "BarometerLeague" "weather" "LBarometerLeague$Weather;") (by decide +kernel)) (fun _ h9 => h9) rfl hnm rfl (by decide +kernel) rfl rfl (Nat.le_of_ble_eq_true rfl) dX4_init_12 (fun H locs hP hS => ?_)
  obtain ⟨f12, ef12⟩ : ∃ z, z = va_up f9 lo (eO 5 [.ref q5, .null, .null, .int 0, .null, .null]) := ⟨_, rfl⟩
  replace hP : PP g L9 f12 H := by rw [ef12]; exact hP
  have hf_q5 : f12 q5 = eO 4 [.ref wa, .ref wb] := by rw [ef12, va_up_ne _ _ n_lo_q5.symm]; exact hf_q5
  have hf_wa : f12 wa = eI g 12 (mapN (fun _ _ => 30) (fun _ => 0) 12) := by rw [ef12, va_up_ne _ _ n_lo_wa.symm]; exact hf_wa
  have hf_wb : f12 wb = eZ g 12 (fun _ => 0) := by rw [ef12, va_up_ne _ _ n_lo_wb.symm]; exact hf_wb
  have hf_lo : f12 lo = eO 5 [.ref q5, .null, .null, .int 0, .null, .null] := by rw [ef12]; exact va_up_self _ _ _
  replace hFr : FrN L f f12 [lo] := by rw [ef12]; exact hFr.up (Or.inl (by simp))
  refine lv_aload_n hx hb dX4_init_15 rfl (lv_at hl 0 rfl) ?_
  refine pg_new (ci := 0) (fs := [.int 0, .null, .int 0]) (C := RJx4a65c) (T := TJx4a65c) (N := 3) hx hb hts hi_Jx4a65c tyJx4a65c tyJx4a65c_ok hown (hts (.classLink RX4 16 RJx4a65c) (by decide +kernel)) (hts (.instantiable RJx4a65c 3) (by decide +kernel)) (hts (.initialized RJx4a65c) (by decide +kernel)) hK hP hN hA hA2 hS rfl (fun j hj => by rcases (show j = 0 ∨ j = 1 ∨ j = 2 by omega) with rfl | rfl | rfl <;> rfl) (by show 3 + 1 ≤ 140; omega) (by show 60 * (3) + 3 ≤ 8400; omega) dX4_init_16 (fun q16 H hn0_q16 hA_q16 hP hS => ?_)
  obtain ⟨L16, eL16⟩ : ∃ z, z = q16 :: L9 := ⟨_, rfl⟩
  obtain ⟨f16, ef16⟩ : ∃ z, z = va_up f12 q16 (eO 0 [.int 0, .null, .int 0]) := ⟨_, rfl⟩
  rw [← eL16, ← ef16] at hP
  have hn_q16 : q16 ∉ L := fun h => hn0_q16 (hSub _ h)
  have n_lo_q16 : lo ≠ q16 := fun z => hn0_q16 (z ▸ hL_lo)
  have hf_lo : f16 lo = eO 5 [.ref q5, .null, .null, .int 0, .null, .null] := by rw [ef16, va_up_ne _ _ n_lo_q16]; exact hf_lo
  have hL_lo : lo ∈ L16 := by rw [eL16]; exact List.mem_cons_of_mem _ hL_lo
  have n_q5_q16 : q5 ≠ q16 := fun z => hn0_q16 (z ▸ hL_q5)
  have hf_q5 : f16 q5 = eO 4 [.ref wa, .ref wb] := by rw [ef16, va_up_ne _ _ n_q5_q16]; exact hf_q5
  have hL_q5 : q5 ∈ L16 := by rw [eL16]; exact List.mem_cons_of_mem _ hL_q5
  have n_wa_q16 : wa ≠ q16 := fun z => hn0_q16 (z ▸ hL_wa)
  have hf_wa : f16 wa = eI g 12 (mapN (fun _ _ => 30) (fun _ => 0) 12) := by rw [ef16, va_up_ne _ _ n_wa_q16]; exact hf_wa
  have hL_wa : wa ∈ L16 := by rw [eL16]; exact List.mem_cons_of_mem _ hL_wa
  have n_wb_q16 : wb ≠ q16 := fun z => hn0_q16 (z ▸ hL_wb)
  have hf_wb : f16 wb = eZ g 12 (fun _ => 0) := by rw [ef16, va_up_ne _ _ n_wb_q16]; exact hf_wb
  have hL_wb : wb ∈ L16 := by rw [eL16]; exact List.mem_cons_of_mem _ hL_wb
  have hf_q16 : f16 q16 = eO 0 [.int 0, .null, .int 0] := by rw [ef16]; exact va_up_self _ _ _
  have hL_q16 : q16 ∈ L16 := by rw [eL16]; exact List.mem_cons_self
  have hN : L16.Nodup := by rw [eL16]; exact List.nodup_cons.mpr ⟨hn0_q16, hN⟩
  have hA : ∀ a ∈ L16, AA L s.heap.size a := by rw [eL16]; exact fa_c hA_q16 hA
  have hSub : ∀ a ∈ L, a ∈ L16 := by rw [eL16]; exact fun a h => List.mem_cons_of_mem _ (hSub a h)
  replace hFr : FrN L f f16 [lo] := by rw [ef16]; exact hFr.up (Or.inr hn_q16)
  refine W.widen (k := 4) (n := 60 * (4)) (by omega) (by omega) ?_
  refine lv_dup hx hb dX4_init_19 rfl ?_
  refine av_I (As := []) (rest := [.ref q16, .ref lo]) ⟨hx, hb, hml, hown, hts⟩ (m_Jx4a65c_init_da8c8 l g L16 f16 _ hN _ _ hL_q16 hf_q16) (cwI 0 hts gX4_init_Jx4a65c_init_da8c8 rfl rfl rfl (hts (.initialized RJx4a65c) (by decide +kernel)) (hts (.methodLink RX4 18 yJx4a65c_init_da8c8) (by decide +kernel)) (hts (.instanceMethod yJx4a65c_init_da8c8) (by decide +kernel)) rfl (by decide +kernel) ⟨Nat.le_of_ble_eq_true rfl, Nat.le_of_ble_eq_true rfl⟩) hK hDS hP hA hS rfl hl.1 rfl (Nat.le_of_ble_eq_true rfl) dX4_init_20 ⟨(by show 4 + 1 ≤ 140; omega), (by show 60 * (4) + 60 ≤ 8400; omega)⟩ (fun L20 f20 H locs hG20 hr20 hP hS hA => ?_)
  refine W.widen (k := 5) (n := 60 * (5)) (by omega) (by omega) ?_
  obtain ⟨hq20, hc20, hw20⟩ := hr20
  have hf_lo : f20 lo = eO 5 [.ref q5, .null, .null, .int 0, .null, .null] := hw20.get hL_lo hf_lo (nm_c n_lo_q16 (List.not_mem_nil))
  have hf_q5 : f20 q5 = eO 4 [.ref wa, .ref wb] := hw20.get hL_q5 hf_q5 (nm_c n_q5_q16 (List.not_mem_nil))
  have hf_wa : f20 wa = eI g 12 (mapN (fun _ _ => 30) (fun _ => 0) 12) := hw20.get hL_wa hf_wa (nm_c n_wa_q16 (List.not_mem_nil))
  have hf_wb : f20 wb = eZ g 12 (fun _ => 0) := hw20.get hL_wb hf_wb (nm_c n_wb_q16 (List.not_mem_nil))
  have hL_lo : lo ∈ L20 := hG20.2.1 _ hL_lo
  have hL_q5 : q5 ∈ L20 := hG20.2.1 _ hL_q5
  have hL_wa : wa ∈ L20 := hG20.2.1 _ hL_wa
  have hL_wb : wb ∈ L20 := hG20.2.1 _ hL_wb
  have hL_q16 : q16 ∈ L20 := hG20.2.1 _ hL_q16
  replace hFr : FrN L f f20 [lo] := hFr.tr2 hSub hw20 (fa_c (Or.inr hn_q16) fa_n)
  have hN := hG20.1
  have hSub : ∀ a ∈ L, a ∈ L20 := fun a h => hG20.2.1 a (hSub a h)
  have hf_q16 : f20 q16 = eO 0 [.int 0, .ref t, .int (nI 0)] := hc20
  refine pg_putF (ty := (.object "java/util/ArrayList")) (C := RX4) (T := TX4) (N := 6) hx hb hts hi_X4 tyX4 tyX4_ok nmX4 hown hK hP hN hA hS hL_lo hf_lo rfl 1 (by decide) (hts (.fieldLink RX4 19 "BarometerLeague" "signs" "Ljava/util/ArrayList;") (by decide +kernel)) (fun _ h9 => h9) rfl hnm rfl (by decide +kernel) rfl rfl (Nat.le_of_ble_eq_true rfl) dX4_init_23 (fun H locs hP hS => ?_)
  obtain ⟨f23, ef23⟩ : ∃ z, z = va_up f20 lo (eO 5 [.ref q5, .ref q16, .null, .int 0, .null, .null]) := ⟨_, rfl⟩
  replace hP : PP g L20 f23 H := by rw [ef23]; exact hP
  have hf_q5 : f23 q5 = eO 4 [.ref wa, .ref wb] := by rw [ef23, va_up_ne _ _ n_lo_q5.symm]; exact hf_q5
  have hf_wa : f23 wa = eI g 12 (mapN (fun _ _ => 30) (fun _ => 0) 12) := by rw [ef23, va_up_ne _ _ n_lo_wa.symm]; exact hf_wa
  have hf_wb : f23 wb = eZ g 12 (fun _ => 0) := by rw [ef23, va_up_ne _ _ n_lo_wb.symm]; exact hf_wb
  have hf_q16 : f23 q16 = eO 0 [.int 0, .ref t, .int (nI 0)] := by rw [ef23, va_up_ne _ _ n_lo_q16.symm]; exact hf_q16
  have hf_lo : f23 lo = eO 5 [.ref q5, .ref q16, .null, .int 0, .null, .null] := by rw [ef23]; exact va_up_self _ _ _
  replace hFr : FrN L f f23 [lo] := by rw [ef23]; exact hFr.up (Or.inl (by simp))
  refine lv_aload_n hx hb dX4_init_26 rfl (lv_at hl 0 rfl) ?_
  refine pg_new (ci := 3) (fs := [.null, .int 0]) (C := RX2) (T := TX2) (N := 2) hx hb hts hi_X2 tyX2 tyX2_ok hown (hts (.classLink RX4 23 RX2) (by decide +kernel)) (hts (.instantiable RX2 2) (by decide +kernel)) (hts (.initialized RX2) (by decide +kernel)) hK hP hN hA hA2 hS rfl (fun j hj => by rcases (show j = 0 ∨ j = 1 by omega) with rfl | rfl <;> rfl) (by show 5 + 1 ≤ 140; omega) (by show 60 * (5) + 2 ≤ 8400; omega) dX4_init_27 (fun q27 H hn0_q27 hA_q27 hP hS => ?_)
  obtain ⟨L27, eL27⟩ : ∃ z, z = q27 :: L20 := ⟨_, rfl⟩
  obtain ⟨f27, ef27⟩ : ∃ z, z = va_up f23 q27 (eO 3 [.null, .int 0]) := ⟨_, rfl⟩
  rw [← eL27, ← ef27] at hP
  have hn_q27 : q27 ∉ L := fun h => hn0_q27 (hSub _ h)
  have n_lo_q27 : lo ≠ q27 := fun z => hn0_q27 (z ▸ hL_lo)
  have hf_lo : f27 lo = eO 5 [.ref q5, .ref q16, .null, .int 0, .null, .null] := by rw [ef27, va_up_ne _ _ n_lo_q27]; exact hf_lo
  have hL_lo : lo ∈ L27 := by rw [eL27]; exact List.mem_cons_of_mem _ hL_lo
  have n_q5_q27 : q5 ≠ q27 := fun z => hn0_q27 (z ▸ hL_q5)
  have hf_q5 : f27 q5 = eO 4 [.ref wa, .ref wb] := by rw [ef27, va_up_ne _ _ n_q5_q27]; exact hf_q5
  have hL_q5 : q5 ∈ L27 := by rw [eL27]; exact List.mem_cons_of_mem _ hL_q5
  have n_wa_q27 : wa ≠ q27 := fun z => hn0_q27 (z ▸ hL_wa)
  have hf_wa : f27 wa = eI g 12 (mapN (fun _ _ => 30) (fun _ => 0) 12) := by rw [ef27, va_up_ne _ _ n_wa_q27]; exact hf_wa
  have hL_wa : wa ∈ L27 := by rw [eL27]; exact List.mem_cons_of_mem _ hL_wa
  have n_wb_q27 : wb ≠ q27 := fun z => hn0_q27 (z ▸ hL_wb)
  have hf_wb : f27 wb = eZ g 12 (fun _ => 0) := by rw [ef27, va_up_ne _ _ n_wb_q27]; exact hf_wb
  have hL_wb : wb ∈ L27 := by rw [eL27]; exact List.mem_cons_of_mem _ hL_wb
  have n_q16_q27 : q16 ≠ q27 := fun z => hn0_q27 (z ▸ hL_q16)
  have hf_q16 : f27 q16 = eO 0 [.int 0, .ref t, .int (nI 0)] := by rw [ef27, va_up_ne _ _ n_q16_q27]; exact hf_q16
  have hL_q16 : q16 ∈ L27 := by rw [eL27]; exact List.mem_cons_of_mem _ hL_q16
  have hf_q27 : f27 q27 = eO 3 [.null, .int 0] := by rw [ef27]; exact va_up_self _ _ _
  have hL_q27 : q27 ∈ L27 := by rw [eL27]; exact List.mem_cons_self
  have hN : L27.Nodup := by rw [eL27]; exact List.nodup_cons.mpr ⟨hn0_q27, hN⟩
  have hA : ∀ a ∈ L27, AA L s.heap.size a := by rw [eL27]; exact fa_c hA_q27 hA
  have hSub : ∀ a ∈ L, a ∈ L27 := by rw [eL27]; exact fun a h => List.mem_cons_of_mem _ (hSub a h)
  replace hFr : FrN L f f27 [lo] := by rw [ef27]; exact hFr.up (Or.inr hn_q27)
  refine W.widen (k := 6) (n := 60 * (6)) (by omega) (by omega) ?_
  refine lv_dup hx hb dX4_init_30 rfl ?_
  refine lv_bipush (v := 6) hx hb dX4_init_31 (by decide) ?_
  have hSub33 := hSub
  refine av_I (As := [.int 6]) (rest := [.ref q27, .ref lo]) ⟨hx, hb, hml, hown, hts⟩ (m_X2_init l g L27 f27 _ hN _ _ 6 hL_q27 hf_q27 (by omega)) (cwI 1 hts gX4_init_X2_init rfl rfl rfl (hts (.initialized RX2) (by decide +kernel)) (hts (.methodLink RX4 25 yX2_init) (by decide +kernel)) (hts (.instanceMethod yX2_init) (by decide +kernel)) rfl (by decide +kernel) ⟨Nat.le_of_ble_eq_true rfl, Nat.le_of_ble_eq_true rfl⟩) hK hDS hP hA hS rfl hl.1 rfl (Nat.le_of_ble_eq_true rfl) dX4_init_33 ⟨(by show 6 + 61 ≤ 140; omega), (by show 60 * (6) + 3660 ≤ 8400; omega)⟩ (fun L33 f33 H locs hG33 hr33 hP hS hA => ?_)
  refine W.widen (k := 67) (n := 60 * (67)) (by omega) (by omega) ?_
  obtain ⟨pa, ad, aw, hn0_pa, hL_pa, hc33, hf_pa, hV, hD, hnV, hw33⟩ := hr33
  have n_lo_pa : lo ≠ pa := fun z => hn0_pa (z ▸ hL_lo)
  have n_q5_pa : q5 ≠ pa := fun z => hn0_pa (z ▸ hL_q5)
  have n_wa_pa : wa ≠ pa := fun z => hn0_pa (z ▸ hL_wa)
  have n_wb_pa : wb ≠ pa := fun z => hn0_pa (z ▸ hL_wb)
  have n_q16_pa : q16 ≠ pa := fun z => hn0_pa (z ▸ hL_q16)
  have n_q27_pa : q27 ≠ pa := fun z => hn0_pa (z ▸ hL_q27)
  have hn_pa : pa ∉ L := fun h => hn0_pa (hSub _ h)
  have hf_lo : f33 lo = eO 5 [.ref q5, .ref q16, .null, .int 0, .null, .null] := hw33.get hL_lo hf_lo (nm_c n_lo_q27 (List.not_mem_nil))
  have hf_q5 : f33 q5 = eO 4 [.ref wa, .ref wb] := hw33.get hL_q5 hf_q5 (nm_c n_q5_q27 (List.not_mem_nil))
  have hf_wa : f33 wa = eI g 12 (mapN (fun _ _ => 30) (fun _ => 0) 12) := hw33.get hL_wa hf_wa (nm_c n_wa_q27 (List.not_mem_nil))
  have hf_wb : f33 wb = eZ g 12 (fun _ => 0) := hw33.get hL_wb hf_wb (nm_c n_wb_q27 (List.not_mem_nil))
  have hf_q16 : f33 q16 = eO 0 [.int 0, .ref t, .int (nI 0)] := hw33.get hL_q16 hf_q16 (nm_c n_q16_q27 (List.not_mem_nil))
  have hL_lo : lo ∈ L33 := hG33.2.1 _ hL_lo
  have hL_q5 : q5 ∈ L33 := hG33.2.1 _ hL_q5
  have hL_wa : wa ∈ L33 := hG33.2.1 _ hL_wa
  have hL_wb : wb ∈ L33 := hG33.2.1 _ hL_wb
  have hL_q16 : q16 ∈ L33 := hG33.2.1 _ hL_q16
  have hL_q27 : q27 ∈ L33 := hG33.2.1 _ hL_q27
  replace hFr : FrN L f f33 [lo] := hFr.tr2 hSub hw33 (fa_c (Or.inr hn_q27) fa_n)
  have hN := hG33.1
  have hSub : ∀ a ∈ L, a ∈ L33 := fun a h => hG33.2.1 a (hSub a h)
  have hf_q27 : f33 q27 = eO 3 [.ref pa, .int (nI 0)] := hc33
  have hf_loV := hf_lo
  have hSubV : ∀ a ∈ L33, a ∈ L33 := fun _ h => h
  have hFrV : FrN L33 f33 f33 [lo] := FrN.rf
  refine pg_putF (ty := (.object "BarometerLeague$VillageRow")) (C := RX4) (T := TX4) (N := 6) hx hb hts hi_X4 tyX4 tyX4_ok nmX4 hown hK hP hN hA hS hL_lo hf_lo rfl 2 (by decide) (hts (.fieldLink RX4 28 "BarometerLeague" "villages" "LBarometerLeague$VillageRow;") (by decide +kernel)) (fun _ h9 => h9) rfl hnm rfl (by decide +kernel) rfl rfl (Nat.le_of_ble_eq_true rfl) dX4_init_36 (fun H locs hP hS => ?_)
  obtain ⟨f36, ef36⟩ : ∃ z, z = va_up f33 lo (eO 5 [.ref q5, .ref q16, .ref q27, .int 0, .null, .null]) := ⟨_, rfl⟩
  replace hP : PP g L33 f36 H := by rw [ef36]; exact hP
  have hf_q5 : f36 q5 = eO 4 [.ref wa, .ref wb] := by rw [ef36, va_up_ne _ _ n_lo_q5.symm]; exact hf_q5
  have hf_wa : f36 wa = eI g 12 (mapN (fun _ _ => 30) (fun _ => 0) 12) := by rw [ef36, va_up_ne _ _ n_lo_wa.symm]; exact hf_wa
  have hf_wb : f36 wb = eZ g 12 (fun _ => 0) := by rw [ef36, va_up_ne _ _ n_lo_wb.symm]; exact hf_wb
  have hf_q16 : f36 q16 = eO 0 [.int 0, .ref t, .int (nI 0)] := by rw [ef36, va_up_ne _ _ n_lo_q16.symm]; exact hf_q16
  have hf_q27 : f36 q27 = eO 3 [.ref pa, .int (nI 0)] := by rw [ef36, va_up_ne _ _ n_lo_q27.symm]; exact hf_q27
  have hf_pa : f36 pa = eV g 6 (vilR ad 6) := by rw [ef36, va_up_ne _ _ n_lo_pa.symm]; exact hf_pa
  have hf_lo : f36 lo = eO 5 [.ref q5, .ref q16, .ref q27, .int 0, .null, .null] := by rw [ef36]; exact va_up_self _ _ _
  replace hFr : FrN L f f36 [lo] := by rw [ef36]; exact hFr.up (Or.inl (by simp))
  replace hFrV : FrN L33 f33 f36 [lo] := by rw [ef36]; exact hFrV.up (Or.inl (by simp))
  refine lv_aload_n hx hb dX4_init_39 rfl (lv_at hl 0 rfl) ?_
  refine lv_bipush (v := 8) hx hb dX4_init_40 (by decide) ?_
  refine pg_newaI hx hb (hts (.arrayClass .int) (by decide +kernel)) hK hP hN hA hA2 hS (k := 8) rfl (by omega) (by show 67 + 1 ≤ 140; omega) (by show 60 * (67) + 8 ≤ 8400; omega) dX4_init_42 (fun q42 H hn0_q42 hA_q42 hP hS => ?_)
  obtain ⟨L42, eL42⟩ : ∃ z, z = q42 :: L33 := ⟨_, rfl⟩
  obtain ⟨f42, ef42⟩ : ∃ z, z = va_up f36 q42 (eI g 8 (fun _ => 0)) := ⟨_, rfl⟩
  rw [← eL42, ← ef42] at hP
  have hn_q42 : q42 ∉ L := fun h => hn0_q42 (hSub _ h)
  have hnV_q42 : q42 ∉ L33 := fun h => hn0_q42 (hSubV _ h)
  have n_lo_q42 : lo ≠ q42 := fun z => hn0_q42 (z ▸ hL_lo)
  have hf_lo : f42 lo = eO 5 [.ref q5, .ref q16, .ref q27, .int 0, .null, .null] := by rw [ef42, va_up_ne _ _ n_lo_q42]; exact hf_lo
  have hL_lo : lo ∈ L42 := by rw [eL42]; exact List.mem_cons_of_mem _ hL_lo
  have n_q5_q42 : q5 ≠ q42 := fun z => hn0_q42 (z ▸ hL_q5)
  have hf_q5 : f42 q5 = eO 4 [.ref wa, .ref wb] := by rw [ef42, va_up_ne _ _ n_q5_q42]; exact hf_q5
  have hL_q5 : q5 ∈ L42 := by rw [eL42]; exact List.mem_cons_of_mem _ hL_q5
  have n_wa_q42 : wa ≠ q42 := fun z => hn0_q42 (z ▸ hL_wa)
  have hf_wa : f42 wa = eI g 12 (mapN (fun _ _ => 30) (fun _ => 0) 12) := by rw [ef42, va_up_ne _ _ n_wa_q42]; exact hf_wa
  have hL_wa : wa ∈ L42 := by rw [eL42]; exact List.mem_cons_of_mem _ hL_wa
  have n_wb_q42 : wb ≠ q42 := fun z => hn0_q42 (z ▸ hL_wb)
  have hf_wb : f42 wb = eZ g 12 (fun _ => 0) := by rw [ef42, va_up_ne _ _ n_wb_q42]; exact hf_wb
  have hL_wb : wb ∈ L42 := by rw [eL42]; exact List.mem_cons_of_mem _ hL_wb
  have n_q16_q42 : q16 ≠ q42 := fun z => hn0_q42 (z ▸ hL_q16)
  have hf_q16 : f42 q16 = eO 0 [.int 0, .ref t, .int (nI 0)] := by rw [ef42, va_up_ne _ _ n_q16_q42]; exact hf_q16
  have hL_q16 : q16 ∈ L42 := by rw [eL42]; exact List.mem_cons_of_mem _ hL_q16
  have n_q27_q42 : q27 ≠ q42 := fun z => hn0_q42 (z ▸ hL_q27)
  have hf_q27 : f42 q27 = eO 3 [.ref pa, .int (nI 0)] := by rw [ef42, va_up_ne _ _ n_q27_q42]; exact hf_q27
  have hL_q27 : q27 ∈ L42 := by rw [eL42]; exact List.mem_cons_of_mem _ hL_q27
  have n_pa_q42 : pa ≠ q42 := fun z => hn0_q42 (z ▸ hL_pa)
  have hf_pa : f42 pa = eV g 6 (vilR ad 6) := by rw [ef42, va_up_ne _ _ n_pa_q42]; exact hf_pa
  have hL_pa : pa ∈ L42 := by rw [eL42]; exact List.mem_cons_of_mem _ hL_pa
  have hf_q42 : f42 q42 = eI g 8 (fun _ => 0) := by rw [ef42]; exact va_up_self _ _ _
  have hL_q42 : q42 ∈ L42 := by rw [eL42]; exact List.mem_cons_self
  have hN : L42.Nodup := by rw [eL42]; exact List.nodup_cons.mpr ⟨hn0_q42, hN⟩
  have hA : ∀ a ∈ L42, AA L s.heap.size a := by rw [eL42]; exact fa_c hA_q42 hA
  have hSub : ∀ a ∈ L, a ∈ L42 := by rw [eL42]; exact fun a h => List.mem_cons_of_mem _ (hSub a h)
  replace hFr : FrN L f f42 [lo] := by rw [ef42]; exact hFr.up (Or.inr hn_q42)
  have hSubV : ∀ a ∈ L33, a ∈ L42 := by rw [eL42]; exact fun a h => List.mem_cons_of_mem _ (hSubV a h)
  replace hFrV : FrN L33 f33 f42 [lo] := by rw [ef42]; exact hFrV.up (Or.inr hnV_q42)
  refine W.widen (k := 68) (n := 60 * (68)) (by omega) (by omega) ?_
  refine pg_putF (ty := (.array .int)) (C := RX4) (T := TX4) (N := 6) hx hb hts hi_X4 tyX4 tyX4_ok nmX4 hown hK hP hN hA hS hL_lo hf_lo rfl 4 (by decide) (hts (.fieldLink RX4 32 "BarometerLeague" "sayings" "[I") (by decide +kernel)) (fun _ h9 => h9) rfl hnm rfl (by decide +kernel) rfl rfl (Nat.le_of_ble_eq_true rfl) dX4_init_44 (fun H locs hP hS => ?_)
  obtain ⟨f44, ef44⟩ : ∃ z, z = va_up f42 lo (eO 5 [.ref q5, .ref q16, .ref q27, .int 0, .ref q42, .null]) := ⟨_, rfl⟩
  replace hP : PP g L42 f44 H := by rw [ef44]; exact hP
  have hf_q5 : f44 q5 = eO 4 [.ref wa, .ref wb] := by rw [ef44, va_up_ne _ _ n_lo_q5.symm]; exact hf_q5
  have hf_wa : f44 wa = eI g 12 (mapN (fun _ _ => 30) (fun _ => 0) 12) := by rw [ef44, va_up_ne _ _ n_lo_wa.symm]; exact hf_wa
  have hf_wb : f44 wb = eZ g 12 (fun _ => 0) := by rw [ef44, va_up_ne _ _ n_lo_wb.symm]; exact hf_wb
  have hf_q16 : f44 q16 = eO 0 [.int 0, .ref t, .int (nI 0)] := by rw [ef44, va_up_ne _ _ n_lo_q16.symm]; exact hf_q16
  have hf_q27 : f44 q27 = eO 3 [.ref pa, .int (nI 0)] := by rw [ef44, va_up_ne _ _ n_lo_q27.symm]; exact hf_q27
  have hf_pa : f44 pa = eV g 6 (vilR ad 6) := by rw [ef44, va_up_ne _ _ n_lo_pa.symm]; exact hf_pa
  have hf_q42 : f44 q42 = eI g 8 (fun _ => 0) := by rw [ef44, va_up_ne _ _ n_lo_q42.symm]; exact hf_q42
  have hf_lo : f44 lo = eO 5 [.ref q5, .ref q16, .ref q27, .int 0, .ref q42, .null] := by rw [ef44]; exact va_up_self _ _ _
  replace hFr : FrN L f f44 [lo] := by rw [ef44]; exact hFr.up (Or.inl (by simp))
  replace hFrV : FrN L33 f33 f44 [lo] := by rw [ef44]; exact hFrV.up (Or.inl (by simp))
  refine lv_aload_n hx hb dX4_init_47 rfl (lv_at hl 0 rfl) ?_
  refine pg_new (ci := 3) (fs := [.null, .int 0]) (C := RX2) (T := TX2) (N := 2) hx hb hts hi_X2 tyX2 tyX2_ok hown (hts (.classLink RX4 23 RX2) (by decide +kernel)) (hts (.instantiable RX2 2) (by decide +kernel)) (hts (.initialized RX2) (by decide +kernel)) hK hP hN hA hA2 hS rfl (fun j hj => by rcases (show j = 0 ∨ j = 1 by omega) with rfl | rfl <;> rfl) (by show 68 + 1 ≤ 140; omega) (by show 60 * (68) + 2 ≤ 8400; omega) dX4_init_48 (fun q48 H hn0_q48 hA_q48 hP hS => ?_)
  obtain ⟨L48, eL48⟩ : ∃ z, z = q48 :: L42 := ⟨_, rfl⟩
  obtain ⟨f48, ef48⟩ : ∃ z, z = va_up f44 q48 (eO 3 [.null, .int 0]) := ⟨_, rfl⟩
  rw [← eL48, ← ef48] at hP
  have hn_q48 : q48 ∉ L := fun h => hn0_q48 (hSub _ h)
  have hnV_q48 : q48 ∉ L33 := fun h => hn0_q48 (hSubV _ h)
  have n_lo_q48 : lo ≠ q48 := fun z => hn0_q48 (z ▸ hL_lo)
  have hf_lo : f48 lo = eO 5 [.ref q5, .ref q16, .ref q27, .int 0, .ref q42, .null] := by rw [ef48, va_up_ne _ _ n_lo_q48]; exact hf_lo
  have hL_lo : lo ∈ L48 := by rw [eL48]; exact List.mem_cons_of_mem _ hL_lo
  have n_q5_q48 : q5 ≠ q48 := fun z => hn0_q48 (z ▸ hL_q5)
  have hf_q5 : f48 q5 = eO 4 [.ref wa, .ref wb] := by rw [ef48, va_up_ne _ _ n_q5_q48]; exact hf_q5
  have hL_q5 : q5 ∈ L48 := by rw [eL48]; exact List.mem_cons_of_mem _ hL_q5
  have n_wa_q48 : wa ≠ q48 := fun z => hn0_q48 (z ▸ hL_wa)
  have hf_wa : f48 wa = eI g 12 (mapN (fun _ _ => 30) (fun _ => 0) 12) := by rw [ef48, va_up_ne _ _ n_wa_q48]; exact hf_wa
  have hL_wa : wa ∈ L48 := by rw [eL48]; exact List.mem_cons_of_mem _ hL_wa
  have n_wb_q48 : wb ≠ q48 := fun z => hn0_q48 (z ▸ hL_wb)
  have hf_wb : f48 wb = eZ g 12 (fun _ => 0) := by rw [ef48, va_up_ne _ _ n_wb_q48]; exact hf_wb
  have hL_wb : wb ∈ L48 := by rw [eL48]; exact List.mem_cons_of_mem _ hL_wb
  have n_q16_q48 : q16 ≠ q48 := fun z => hn0_q48 (z ▸ hL_q16)
  have hf_q16 : f48 q16 = eO 0 [.int 0, .ref t, .int (nI 0)] := by rw [ef48, va_up_ne _ _ n_q16_q48]; exact hf_q16
  have hL_q16 : q16 ∈ L48 := by rw [eL48]; exact List.mem_cons_of_mem _ hL_q16
  have n_q27_q48 : q27 ≠ q48 := fun z => hn0_q48 (z ▸ hL_q27)
  have hf_q27 : f48 q27 = eO 3 [.ref pa, .int (nI 0)] := by rw [ef48, va_up_ne _ _ n_q27_q48]; exact hf_q27
  have hL_q27 : q27 ∈ L48 := by rw [eL48]; exact List.mem_cons_of_mem _ hL_q27
  have n_pa_q48 : pa ≠ q48 := fun z => hn0_q48 (z ▸ hL_pa)
  have hf_pa : f48 pa = eV g 6 (vilR ad 6) := by rw [ef48, va_up_ne _ _ n_pa_q48]; exact hf_pa
  have hL_pa : pa ∈ L48 := by rw [eL48]; exact List.mem_cons_of_mem _ hL_pa
  have n_q42_q48 : q42 ≠ q48 := fun z => hn0_q48 (z ▸ hL_q42)
  have hf_q42 : f48 q42 = eI g 8 (fun _ => 0) := by rw [ef48, va_up_ne _ _ n_q42_q48]; exact hf_q42
  have hL_q42 : q42 ∈ L48 := by rw [eL48]; exact List.mem_cons_of_mem _ hL_q42
  have hf_q48 : f48 q48 = eO 3 [.null, .int 0] := by rw [ef48]; exact va_up_self _ _ _
  have hL_q48 : q48 ∈ L48 := by rw [eL48]; exact List.mem_cons_self
  have hN : L48.Nodup := by rw [eL48]; exact List.nodup_cons.mpr ⟨hn0_q48, hN⟩
  have hA : ∀ a ∈ L48, AA L s.heap.size a := by rw [eL48]; exact fa_c hA_q48 hA
  have hSub : ∀ a ∈ L, a ∈ L48 := by rw [eL48]; exact fun a h => List.mem_cons_of_mem _ (hSub a h)
  replace hFr : FrN L f f48 [lo] := by rw [ef48]; exact hFr.up (Or.inr hn_q48)
  have hSubV : ∀ a ∈ L33, a ∈ L48 := by rw [eL48]; exact fun a h => List.mem_cons_of_mem _ (hSubV a h)
  replace hFrV : FrN L33 f33 f48 [lo] := by rw [ef48]; exact hFrV.up (Or.inr hnV_q48)
  refine W.widen (k := 69) (n := 60 * (69)) (by omega) (by omega) ?_
  refine lv_dup hx hb dX4_init_51 rfl ?_
  refine lv_bipush (v := 9) hx hb dX4_init_52 (by decide) ?_
  have hSub54 := hSub
  have hSubV54 := hSubV
  have hL42_54 := hL_q42
  refine av_I (As := [.int 9]) (rest := [.ref q48, .ref lo]) ⟨hx, hb, hml, hown, hts⟩ (m_X2_init l g L48 f48 _ hN _ _ 9 hL_q48 hf_q48 (by omega)) (cwI 1 hts gX4_init_X2_init rfl rfl rfl (hts (.initialized RX2) (by decide +kernel)) (hts (.methodLink RX4 25 yX2_init) (by decide +kernel)) (hts (.instanceMethod yX2_init) (by decide +kernel)) rfl (by decide +kernel) ⟨Nat.le_of_ble_eq_true rfl, Nat.le_of_ble_eq_true rfl⟩) hK hDS hP hA hS rfl hl.1 rfl (Nat.le_of_ble_eq_true rfl) dX4_init_54 ⟨(by show 69 + 61 ≤ 140; omega), (by show 60 * (69) + 3660 ≤ 8400; omega)⟩ (fun L54 f54 H locs hG54 hr54 hP hS hA => ?_)
  refine W.widen (k := 130) (n := 60 * (130)) (by omega) (by omega) ?_
  obtain ⟨tp, tad, taw, hn0_tp, hL_tp, hc54, hf_tp, hT, hDT, hnT, hw54⟩ := hr54
  have n_lo_tp : lo ≠ tp := fun z => hn0_tp (z ▸ hL_lo)
  have n_q5_tp : q5 ≠ tp := fun z => hn0_tp (z ▸ hL_q5)
  have n_wa_tp : wa ≠ tp := fun z => hn0_tp (z ▸ hL_wa)
  have n_wb_tp : wb ≠ tp := fun z => hn0_tp (z ▸ hL_wb)
  have n_q16_tp : q16 ≠ tp := fun z => hn0_tp (z ▸ hL_q16)
  have n_q27_tp : q27 ≠ tp := fun z => hn0_tp (z ▸ hL_q27)
  have n_pa_tp : pa ≠ tp := fun z => hn0_tp (z ▸ hL_pa)
  have n_q42_tp : q42 ≠ tp := fun z => hn0_tp (z ▸ hL_q42)
  have n_q48_tp : q48 ≠ tp := fun z => hn0_tp (z ▸ hL_q48)
  have hn_tp : tp ∉ L := fun h => hn0_tp (hSub _ h)
  have hnV_tp : tp ∉ L33 := fun h => hn0_tp (hSubV _ h)
  have hf_lo : f54 lo = eO 5 [.ref q5, .ref q16, .ref q27, .int 0, .ref q42, .null] := hw54.get hL_lo hf_lo (nm_c n_lo_q48 (List.not_mem_nil))
  have hf_q5 : f54 q5 = eO 4 [.ref wa, .ref wb] := hw54.get hL_q5 hf_q5 (nm_c n_q5_q48 (List.not_mem_nil))
  have hf_wa : f54 wa = eI g 12 (mapN (fun _ _ => 30) (fun _ => 0) 12) := hw54.get hL_wa hf_wa (nm_c n_wa_q48 (List.not_mem_nil))
  have hf_wb : f54 wb = eZ g 12 (fun _ => 0) := hw54.get hL_wb hf_wb (nm_c n_wb_q48 (List.not_mem_nil))
  have hf_q16 : f54 q16 = eO 0 [.int 0, .ref t, .int (nI 0)] := hw54.get hL_q16 hf_q16 (nm_c n_q16_q48 (List.not_mem_nil))
  have hf_q27 : f54 q27 = eO 3 [.ref pa, .int (nI 0)] := hw54.get hL_q27 hf_q27 (nm_c n_q27_q48 (List.not_mem_nil))
  have hf_pa : f54 pa = eV g 6 (vilR ad 6) := hw54.get hL_pa hf_pa (nm_c n_pa_q48 (List.not_mem_nil))
  have hf_q42 : f54 q42 = eI g 8 (fun _ => 0) := hw54.get hL_q42 hf_q42 (nm_c n_q42_q48 (List.not_mem_nil))
  have hL_lo : lo ∈ L54 := hG54.2.1 _ hL_lo
  have hL_q5 : q5 ∈ L54 := hG54.2.1 _ hL_q5
  have hL_wa : wa ∈ L54 := hG54.2.1 _ hL_wa
  have hL_wb : wb ∈ L54 := hG54.2.1 _ hL_wb
  have hL_q16 : q16 ∈ L54 := hG54.2.1 _ hL_q16
  have hL_q27 : q27 ∈ L54 := hG54.2.1 _ hL_q27
  have hL_pa : pa ∈ L54 := hG54.2.1 _ hL_pa
  have hL_q42 : q42 ∈ L54 := hG54.2.1 _ hL_q42
  have hL_q48 : q48 ∈ L54 := hG54.2.1 _ hL_q48
  replace hFr : FrN L f f54 [lo] := hFr.tr2 hSub hw54 (fa_c (Or.inr hn_q48) fa_n)
  replace hFrV : FrN L33 f33 f54 [lo] := hFrV.tr2 hSubV hw54 (fa_c (Or.inr hnV_q48) fa_n)
  have hN := hG54.1
  have hSub : ∀ a ∈ L, a ∈ L54 := fun a h => hG54.2.1 a (hSub a h)
  have hSubV : ∀ a ∈ L33, a ∈ L54 := fun a h => hG54.2.1 a (hSubV a h)
  have hf_q48 : f54 q48 = eO 3 [.ref tp, .int (nI 0)] := hc54
  have hf_loT := hf_lo
  have hSubT : ∀ a ∈ L54, a ∈ L54 := fun _ h => h
  have hFrT : FrN L54 f54 f54 [lo] := FrN.rf
  refine pg_putF (ty := (.object "BarometerLeague$VillageRow")) (C := RX4) (T := TX4) (N := 6) hx hb hts hi_X4 tyX4 tyX4_ok nmX4 hown hK hP hN hA hS hL_lo hf_lo rfl 5 (by decide) (hts (.fieldLink RX4 36 "BarometerLeague" "trials" "LBarometerLeague$VillageRow;") (by decide +kernel)) (fun _ h9 => h9) rfl hnm rfl (by decide +kernel) rfl rfl (Nat.le_of_ble_eq_true rfl) dX4_init_57 (fun H locs hP hS => ?_)
  obtain ⟨f57, ef57⟩ : ∃ z, z = va_up f54 lo (eO 5 [.ref q5, .ref q16, .ref q27, .int 0, .ref q42, .ref q48]) := ⟨_, rfl⟩
  replace hP : PP g L54 f57 H := by rw [ef57]; exact hP
  have hf_q5 : f57 q5 = eO 4 [.ref wa, .ref wb] := by rw [ef57, va_up_ne _ _ n_lo_q5.symm]; exact hf_q5
  have hf_wa : f57 wa = eI g 12 (mapN (fun _ _ => 30) (fun _ => 0) 12) := by rw [ef57, va_up_ne _ _ n_lo_wa.symm]; exact hf_wa
  have hf_wb : f57 wb = eZ g 12 (fun _ => 0) := by rw [ef57, va_up_ne _ _ n_lo_wb.symm]; exact hf_wb
  have hf_q16 : f57 q16 = eO 0 [.int 0, .ref t, .int (nI 0)] := by rw [ef57, va_up_ne _ _ n_lo_q16.symm]; exact hf_q16
  have hf_q27 : f57 q27 = eO 3 [.ref pa, .int (nI 0)] := by rw [ef57, va_up_ne _ _ n_lo_q27.symm]; exact hf_q27
  have hf_pa : f57 pa = eV g 6 (vilR ad 6) := by rw [ef57, va_up_ne _ _ n_lo_pa.symm]; exact hf_pa
  have hf_q42 : f57 q42 = eI g 8 (fun _ => 0) := by rw [ef57, va_up_ne _ _ n_lo_q42.symm]; exact hf_q42
  have hf_q48 : f57 q48 = eO 3 [.ref tp, .int (nI 0)] := by rw [ef57, va_up_ne _ _ n_lo_q48.symm]; exact hf_q48
  have hf_tp : f57 tp = eV g 9 (vilR tad 9) := by rw [ef57, va_up_ne _ _ n_lo_tp.symm]; exact hf_tp
  have hf_lo : f57 lo = eO 5 [.ref q5, .ref q16, .ref q27, .int 0, .ref q42, .ref q48] := by rw [ef57]; exact va_up_self _ _ _
  replace hFr : FrN L f f57 [lo] := by rw [ef57]; exact hFr.up (Or.inl (by simp))
  replace hFrV : FrN L33 f33 f57 [lo] := by rw [ef57]; exact hFrV.up (Or.inl (by simp))
  replace hFrT : FrN L54 f54 f57 [lo] := by rw [ef57]; exact hFrT.up (Or.inl (by simp))
  exact hend L54 f57 _ _ _ _ _ _ ⟨hN, hSub, hA⟩ (⟨q5, wa, wb, q16, q27, pa, q42, q48, tp, ad, aw, tad, taw, (fa_c ⟨hn_q5, hL_q5⟩ (fa_c ⟨hn_wa, hL_wa⟩ (fa_c ⟨hn_wb, hL_wb⟩ (fa_c ⟨hn_q16, hL_q16⟩ (fa_c ⟨hn_q27, hL_q27⟩ (fa_c ⟨hn_pa, hL_pa⟩ (fa_c ⟨hn_q42, hL_q42⟩ (fa_c ⟨hn_q48, hL_q48⟩ (fa_c ⟨hn_tp, hL_tp⟩ fa_n))))))))), n_q27_q48, n_wa_wb, hf_lo, hf_q5, hf_wa, hf_wb, hf_q16, hf_q27, hf_pa, hf_q42, hf_q48, hf_tp, hV.frN hSubV hFrV (fun v hv => ⟨nm_c (ne_e (hV v hv).2.1 hf_loV (by simp)) List.not_mem_nil, nm_c (ne_e (hV v hv).2.2.2 hf_loV (by simp)) List.not_mem_nil⟩), hD, hT.frN hSubT hFrT (fun v hv => ⟨nm_c (ne_e (hT v hv).2.1 hf_loT (by simp)) List.not_mem_nil, nm_c (ne_e (hT v hv).2.2.2 hf_loT (by simp)) List.not_mem_nil⟩), hDT, fun v hv => ⟨fun u hu => ⟨fun z => (hnT u hu).1 (by rw [← z]; exact hSubV54 _ (hV v hv).1), fun z => (hnT u hu).2 (by rw [← z]; exact hSubV54 _ (hV v hv).1)⟩, fun u hu => ⟨fun z => (hnT u hu).1 (by rw [← z]; exact hSubV54 _ (hV v hv).2.2.1), fun z => (hnT u hu).2 (by rw [← z]; exact hSubV54 _ (hV v hv).2.2.1)⟩⟩, fun v hv z => hnV_q42 (by rw [z]; exact (hV v hv).2.2.1), fun v hv z => (hnT v hv).2 (by rw [← z]; exact hL42_54), fun v hv => ⟨fun h => (hnV v hv).1 (hSub33 _ h), fun h => (hnV v hv).2 (hSub33 _ h)⟩, fun v hv => ⟨fun h => (hnT v hv).1 (hSub54 _ h), fun h => (hnT v hv).2 (hSub54 _ h)⟩, hFr⟩) hP hS (Nat.le_of_ble_eq_true rfl) (Nat.le_of_ble_eq_true rfl) dX4_init_60
