set_option maxHeartbeats 4000000 in
set_option maxRecDepth 100000 in
theorem m_X4_setGlass (l : Launch) (hst : l.stackTraces = false) (g : GG) (L : List Nat) (f : Nat → va_E) (sz : Nat) (hN : L.Nodup) (lo we al rv d sy rt ga ra : Nat) (gl rn : Nat → Int32) (x y : Int32) (hL_lo : lo ∈ L) (hf_lo : f lo = eO 5 [.ref we, .ref al, .ref rv, .int (nI d), .ref sy, .ref rt]) (hL_we : we ∈ L) (hf_we : f we = eO 4 [.ref ga, .ref ra]) (hL_ga : ga ∈ L) (hf_ga : f ga = eI g 12 gl) (hL_ra : ra ∈ L) (hf_ra : f ra = eZ g 12 rn) (n_ga_ra : ga ≠ ra) : TW l g yX4_setGlass wsX4_setGlass 7 110 2 12 L f sz [.ref lo, .int x, .int y] (fun r f2 => (∃ j, j < 12 ∧ x = nI j ∧ inB y 61 = true ∧ r = gl j ∧ f2 ga = eI g 12 (upd gl j y)) ∧ Fr f f2 [ga]) (fun E => (E = "java/lang/IndexOutOfBoundsException" ∧ inB x 12 = false) ∨ (E = "java/lang/IllegalArgumentException" ∧ inB x 12 = true ∧ inB y 61 = false)) := by
  refine TW.start (cc := cX4_setGlass) (maxL := 4) (ret := .int) hst (by decide) rfl (by simp [lg_sl, Value.category]) (by decide) (by decide) ?_
  intro p e s m args below meth c Q ls hx hb hml hts hown hS hP hK hZ hl hend hthr hprop
  have hA : ∀ a ∈ L, AA L s.heap.size a := fun _ h => Or.inl h
  have hA2 : ∀ q, s.heap.size ≤ q → AA L s.heap.size q := fun _ h => Or.inr h
  have hl : lv_has ls 4 [(0, .ref lo), (1, .int x), (2, .int y)] := hl
  have hi_X4 : ∀ w ∈ u_ws RX4 TX4 6, w ∈ wsX4_setGlass := by decide +kernel
  have hFr : Fr f f [ga] := Fr.rf
  have n_lo_we : lo ≠ we := ne_e hf_lo hf_we (by simp)
  have n_lo_ga : lo ≠ ga := ne_e hf_lo hf_ga (by simp)
  have n_lo_ra : lo ≠ ra := ne_e hf_lo hf_ra (by simp)
  have n_we_ga : we ≠ ga := ne_e hf_we hf_ga (by simp)
  have n_we_ra : we ≠ ra := ne_e hf_we hf_ra (by simp)
  have h0f_lo := hf_lo
  have h0f_we := hf_we
  have h0f_ga := hf_ga
  have h0f_ra := hf_ra
  refine lv_iload_n hx hb dX4_setGlass_0 rfl (lv_at hl 1 rfl) ?_
  refine tv_S (As := [.int x]) (rest := []) ⟨hx, hb, hml, hown, hts⟩ (m_X4_requireTableDay l hst g L f _ hN x ) (va_cwS 1 hts gX4_setGlass_X4_requireTableDay rfl rfl rfl (by decide +kernel) ⟨Nat.le_of_ble_eq_true rfl, Nat.le_of_ble_eq_true rfl⟩) hK hZ hP hS rfl hl.1 rfl (Nat.le_of_ble_eq_true rfl) dX4_setGlass_1 ⟨(Nat.le_of_ble_eq_true rfl), (Nat.le_of_ble_eq_true rfl)⟩ (fun E ce q9 H locs hxc hP hS hce hcv hcl => hprop E ce q9 _ _ _ _ _ _ _ (Or.inl hxc) hP hS hce hcv hcl (Nat.le_of_ble_eq_true rfl) (Nat.le_of_ble_eq_true rfl)) (fun f1 H locs hr1 hP hS => ?_)
  obtain ⟨hr1, hq1⟩ := hr1
  rw [hq1] at hP
  obtain ⟨j, hj, rfl⟩ := inB_of hr1 (by omega)
  refine lv_iload_n hx hb dX4_setGlass_4 rfl (lv_at hl 2 rfl) ?_
  refine lv_if_lt (tgt := 14) hx hb dX4_setGlass_5 (by decide) (fun c5 => ?_) (fun c5 => ?_)
  · skip
    exact hthr "java/lang/IllegalArgumentException" "the glass stands at 0 to 60" 57 4 42 44 46 _ _ _ _ 14 _ (Or.inr ⟨rfl, hr1, le_out1 (k := 60) (by omega) c5⟩) hP hS (Nat.le_of_ble_eq_true rfl) (Nat.le_of_ble_eq_true rfl) (by decide +kernel) rfl rfl (hts (.classLink RX4 42 "java/lang/IllegalArgumentException") (by decide +kernel)) (hts (.initialized "java/lang/IllegalArgumentException") (by decide +kernel)) (by decide +kernel) (by decide +kernel) (by decide +kernel) hl.1 ⟨dX4_setGlass_14, dX4_setGlass_17, dX4_setGlass_18, dX4_setGlass_20, dX4_setGlass_23⟩
  · skip
    refine lv_iload_n hx hb dX4_setGlass_8 rfl (lv_at hl 2 rfl) ?_
    refine lv_bipush (v := 60) hx hb dX4_setGlass_9 (by decide) ?_
    refine lv_icmp_le (tgt := 24) hx hb dX4_setGlass_11 (by decide) (fun c11 => ?_) (fun c11 => ?_)
    · skip
      refine lv_aload_n hx hb dX4_setGlass_24 rfl (lv_at hl 0 rfl) ?_
      refine pg_get (C := RX4) (T := TX4) (N := 6) hx hb hts hi_X4 hown hK hP hL_lo hf_lo rfl 0 (by decide) (hts (.fieldLink RX4 10 "BarometerLeague" "weather" "LBarometerLeague$Weather;") (by decide +kernel)) (fun _ h9 => h9) rfl dX4_setGlass_25 ?_
      refine lv_iload_n hx hb dX4_setGlass_28 rfl (lv_at hl 1 rfl) ?_
      refine ro_V (As := [.int (nI j)]) (rest := []) ⟨hx, hb, hml, hown, hts⟩ (m_X3_glassOn l g L f _ _ _ _ _ _ j hL_we hf_we hL_ga hf_ga hL_ra hf_ra (dIx_t hj)) (cwV 1 hts gX4_setGlass_X3_glassOn rfl rfl rfl (by decide +kernel) ⟨Nat.le_of_ble_eq_true rfl, Nat.le_of_ble_eq_true rfl⟩) hK hP hL_we hf_we rfl rfl hl.1 rfl (Nat.le_of_ble_eq_true rfl) dX4_setGlass_29 ⟨(Nat.le_of_ble_eq_true rfl), (Nat.le_of_ble_eq_true rfl)⟩ (fun r29 hr29 => ?_)
      have hr29 : r29 = gl j := hr29
      subst hr29
      refine lv_istore_n (lv' := [(3, .int (gl j)), (0, .ref lo), (1, .int (nI j)), (2, .int y)]) hx hb dX4_setGlass_32 rfl hl (by decide) rfl (fun ls hl => ?_)
      refine lv_aload_n hx hb dX4_setGlass_33 rfl (lv_at hl 1 rfl) ?_
      refine pg_get (C := RX4) (T := TX4) (N := 6) hx hb hts hi_X4 hown hK hP hL_lo hf_lo rfl 0 (by decide) (hts (.fieldLink RX4 10 "BarometerLeague" "weather" "LBarometerLeague$Weather;") (by decide +kernel)) (fun _ h9 => h9) rfl dX4_setGlass_34 ?_
      refine lv_iload_n hx hb dX4_setGlass_37 rfl (lv_at hl 2 rfl) ?_
      refine lv_iload_n hx hb dX4_setGlass_38 rfl (lv_at hl 3 rfl) ?_
      refine rv_V (As := [.int (nI j), .int y]) (rest := []) ⟨hx, hb, hml, hown, hts⟩ (m_X3_putGlass l g L f _ hN _ _ _ _ _ _ _ j hL_we hf_we hL_ga hf_ga hL_ra hf_ra n_ga_ra (dIx_t hj)) (cwV 2 hts gX4_setGlass_X3_putGlass rfl rfl rfl (by decide +kernel) ⟨Nat.le_of_ble_eq_true rfl, Nat.le_of_ble_eq_true rfl⟩) hK hP hA hA2 hS hL_we hf_we rfl rfl hl.1 rfl (Nat.le_of_ble_eq_true rfl) dX4_setGlass_39 ⟨(Nat.le_of_ble_eq_true rfl), (Nat.le_of_ble_eq_true rfl)⟩ (fun f39 H locs hr39 hP hS => ?_)
      obtain ⟨hc39_0, hw39⟩ := hr39
      have hf_lo : f39 lo = eO 5 [.ref we, .ref al, .ref rv, .int (nI d), .ref sy, .ref rt] := hw39.get hf_lo (nm_c n_lo_ga (List.not_mem_nil))
      have hf_we : f39 we = eO 4 [.ref ga, .ref ra] := hw39.get hf_we (nm_c n_we_ga (List.not_mem_nil))
      have hf_ra : f39 ra = eZ g 12 rn := hw39.get hf_ra (nm_c n_ga_ra.symm (List.not_mem_nil))
      have hf_ga : f39 ga = eI g 12 (upd gl j y) := hc39_0
      replace hFr : Fr f f39 [ga] := hFr.tr hw39 (by simp)
      refine lv_iload_n hx hb dX4_setGlass_42 rfl (lv_at hl 0 rfl) ?_
      exact hend (gl j) f39 _ _ _ _ _ _ (⟨⟨j, hj, rfl, le_in (k := 60) (by omega) c5 c11, rfl, hf_ga⟩, hFr⟩) hP hS rfl (Nat.le_of_ble_eq_true rfl) (Nat.le_of_ble_eq_true rfl) dX4_setGlass_43
    · skip
      exact hthr "java/lang/IllegalArgumentException" "the glass stands at 0 to 60" 57 4 42 44 46 _ _ _ _ 14 _ (Or.inr ⟨rfl, hr1, le_out2 (k := 60) (by omega) c11⟩) hP hS (Nat.le_of_ble_eq_true rfl) (Nat.le_of_ble_eq_true rfl) (by decide +kernel) rfl rfl (hts (.classLink RX4 42 "java/lang/IllegalArgumentException") (by decide +kernel)) (hts (.initialized "java/lang/IllegalArgumentException") (by decide +kernel)) (by decide +kernel) (by decide +kernel) (by decide +kernel) hl.1 ⟨dX4_setGlass_14, dX4_setGlass_17, dX4_setGlass_18, dX4_setGlass_20, dX4_setGlass_23⟩

set_option maxHeartbeats 4000000 in
set_option maxRecDepth 100000 in
theorem m_X4_setRain (l : Launch) (hst : l.stackTraces = false) (g : GG) (L : List Nat) (f : Nat → va_E) (sz : Nat) (hN : L.Nodup) (lo we al rv d sy rt ga ra : Nat) (gl rn : Nat → Int32) (x : Int32) (bb : Bool) (hL_lo : lo ∈ L) (hf_lo : f lo = eO 5 [.ref we, .ref al, .ref rv, .int (nI d), .ref sy, .ref rt]) (hL_we : we ∈ L) (hf_we : f we = eO 4 [.ref ga, .ref ra]) (hL_ga : ga ∈ L) (hf_ga : f ga = eI g 12 gl) (hL_ra : ra ∈ L) (hf_ra : f ra = eZ g 12 rn) (n_ga_ra : ga ≠ ra) (hrn : ∀ k, k < 12 → ∃ b, rn k = b2i b) : TW l g yX4_setRain wsX4_setRain 7 110 1 6 L f sz [.ref lo, .int x, .int (b2i bb)] (fun r f2 => (∃ j, j < 12 ∧ x = nI j ∧ r = rn j ∧ f2 ra = eZ g 12 (upd rn j (b2i bb))) ∧ Fr f f2 [ra]) (fun E => E = "java/lang/IndexOutOfBoundsException" ∧ inB x 12 = false) := by
  refine TW.start (cc := cX4_setRain) (maxL := 4) (ret := .boolean) hst (by decide) rfl (by simp [lg_sl, Value.category]) (by decide) (by decide) ?_
  intro p e s m args below meth c Q ls hx hb hml hts hown hS hP hK hZ hl hend hthr hprop
  have hA : ∀ a ∈ L, AA L s.heap.size a := fun _ h => Or.inl h
  have hA2 : ∀ q, s.heap.size ≤ q → AA L s.heap.size q := fun _ h => Or.inr h
  have hl : lv_has ls 4 [(0, .ref lo), (1, .int x), (2, .int (b2i bb))] := hl
  have hi_X4 : ∀ w ∈ u_ws RX4 TX4 6, w ∈ wsX4_setRain := by decide +kernel
  have hFr : Fr f f [ra] := Fr.rf
  have n_lo_we : lo ≠ we := ne_e hf_lo hf_we (by simp)
  have n_lo_ga : lo ≠ ga := ne_e hf_lo hf_ga (by simp)
  have n_lo_ra : lo ≠ ra := ne_e hf_lo hf_ra (by simp)
  have n_we_ga : we ≠ ga := ne_e hf_we hf_ga (by simp)
  have n_we_ra : we ≠ ra := ne_e hf_we hf_ra (by simp)
  have h0f_lo := hf_lo
  have h0f_we := hf_we
  have h0f_ga := hf_ga
  have h0f_ra := hf_ra
  refine lv_iload_n hx hb dX4_setRain_0 rfl (lv_at hl 1 rfl) ?_
  refine tv_S (As := [.int x]) (rest := []) ⟨hx, hb, hml, hown, hts⟩ (m_X4_requireTableDay l hst g L f _ hN x ) (va_cwS 1 hts gX4_setRain_X4_requireTableDay rfl rfl rfl (by decide +kernel) ⟨Nat.le_of_ble_eq_true rfl, Nat.le_of_ble_eq_true rfl⟩) hK hZ hP hS rfl hl.1 rfl (Nat.le_of_ble_eq_true rfl) dX4_setRain_1 ⟨(Nat.le_of_ble_eq_true rfl), (Nat.le_of_ble_eq_true rfl)⟩ (fun E ce q9 H locs hxc hP hS hce hcv hcl => hprop E ce q9 _ _ _ _ _ _ _ (hxc) hP hS hce hcv hcl (Nat.le_of_ble_eq_true rfl) (Nat.le_of_ble_eq_true rfl)) (fun f1 H locs hr1 hP hS => ?_)
  obtain ⟨hr1, hq1⟩ := hr1
  rw [hq1] at hP
  obtain ⟨j, hj, rfl⟩ := inB_of hr1 (by omega)
  refine lv_aload_n hx hb dX4_setRain_4 rfl (lv_at hl 0 rfl) ?_
  refine pg_get (C := RX4) (T := TX4) (N := 6) hx hb hts hi_X4 hown hK hP hL_lo hf_lo rfl 0 (by decide) (hts (.fieldLink RX4 10 "BarometerLeague" "weather" "LBarometerLeague$Weather;") (by decide +kernel)) (fun _ h9 => h9) rfl dX4_setRain_5 ?_
  refine lv_iload_n hx hb dX4_setRain_8 rfl (lv_at hl 1 rfl) ?_
  refine ro_V (As := [.int (nI j)]) (rest := []) ⟨hx, hb, hml, hown, hts⟩ (m_X3_rainsOn l g L f _ _ _ _ _ _ j hL_we hf_we hL_ga hf_ga hL_ra hf_ra (dIx_t hj) hrn) (cwV 1 hts gX4_setRain_X3_rainsOn rfl rfl rfl (by decide +kernel) ⟨Nat.le_of_ble_eq_true rfl, Nat.le_of_ble_eq_true rfl⟩) hK hP hL_we hf_we rfl rfl hl.1 rfl (Nat.le_of_ble_eq_true rfl) dX4_setRain_9 ⟨(Nat.le_of_ble_eq_true rfl), (Nat.le_of_ble_eq_true rfl)⟩ (fun r9 hr9 => ?_)
  have hr9 : r9 = rn j := hr9
  subst hr9
  refine lv_istore_n (lv' := [(3, .int (rn j)), (0, .ref lo), (1, .int (nI j)), (2, .int (b2i bb))]) hx hb dX4_setRain_12 rfl hl (by decide) rfl (fun ls hl => ?_)
  refine lv_aload_n hx hb dX4_setRain_13 rfl (lv_at hl 1 rfl) ?_
  refine pg_get (C := RX4) (T := TX4) (N := 6) hx hb hts hi_X4 hown hK hP hL_lo hf_lo rfl 0 (by decide) (hts (.fieldLink RX4 10 "BarometerLeague" "weather" "LBarometerLeague$Weather;") (by decide +kernel)) (fun _ h9 => h9) rfl dX4_setRain_14 ?_
  refine lv_iload_n hx hb dX4_setRain_17 rfl (lv_at hl 2 rfl) ?_
  refine lv_iload_n hx hb dX4_setRain_18 rfl (lv_at hl 3 rfl) ?_
  refine rv_V (As := [.int (nI j), .int (b2i bb)]) (rest := []) ⟨hx, hb, hml, hown, hts⟩ (m_X3_putRain l g L f _ hN _ _ _ _ _ _ _ j hL_we hf_we hL_ga hf_ga hL_ra hf_ra n_ga_ra (dIx_t hj) ⟨bb, rfl⟩) (cwV 2 hts gX4_setRain_X3_putRain rfl rfl rfl (by decide +kernel) ⟨Nat.le_of_ble_eq_true rfl, Nat.le_of_ble_eq_true rfl⟩) hK hP hA hA2 hS hL_we hf_we rfl rfl hl.1 rfl (Nat.le_of_ble_eq_true rfl) dX4_setRain_19 ⟨(Nat.le_of_ble_eq_true rfl), (Nat.le_of_ble_eq_true rfl)⟩ (fun f19 H locs hr19 hP hS => ?_)
  obtain ⟨hc19_0, hw19⟩ := hr19
  have hf_lo : f19 lo = eO 5 [.ref we, .ref al, .ref rv, .int (nI d), .ref sy, .ref rt] := hw19.get hf_lo (nm_c n_lo_ra (List.not_mem_nil))
  have hf_we : f19 we = eO 4 [.ref ga, .ref ra] := hw19.get hf_we (nm_c n_we_ra (List.not_mem_nil))
  have hf_ga : f19 ga = eI g 12 gl := hw19.get hf_ga (nm_c n_ga_ra (List.not_mem_nil))
  have hf_ra : f19 ra = eZ g 12 (upd rn j (b2i bb)) := hc19_0
  replace hFr : Fr f f19 [ra] := hFr.tr hw19 (by simp)
  refine lv_iload_n hx hb dX4_setRain_22 rfl (lv_at hl 0 rfl) ?_
  exact hend (rn j) f19 _ _ _ _ _ _ (⟨⟨j, hj, rfl, rfl, hf_ra⟩, hFr⟩) hP hS (by obtain ⟨b, hb⟩ := hrn j hj; rw [hb]; exact b2i_n b) (Nat.le_of_ble_eq_true rfl) (Nat.le_of_ble_eq_true rfl) dX4_setRain_23

set_option maxHeartbeats 4000000 in
set_option maxRecDepth 100000 in
theorem m_X4_says (l : Launch) (hst : l.stackTraces = false) (g : GG) (L : List Nat) (f : Nat → va_E) (sz : Nat) (hN : L.Nodup) (lo we al rv d sy rt ed n ga ra : Nat) (mo : Int32) (gl rn sa kd nu : Nat → Int32) (so : Nat → Nat) (el : Nat → Option Nat) (x day : Int32) (hL_lo : lo ∈ L) (hf_lo : f lo = eO 5 [.ref we, .ref al, .ref rv, .int (nI d), .ref sy, .ref rt]) (hL_al : al ∈ L) (hf_al : f al = eO 0 [.int mo, .ref ed, .int (nI n)]) (hL_we : we ∈ L) (hf_we : f we = eO 4 [.ref ga, .ref ra]) (hL_ga : ga ∈ L) (hf_ga : f ga = eI g 12 gl) (hL_ra : ra ∈ L) (hf_ra : f ra = eZ g 12 rn) (hL_sy : sy ∈ L) (hf_sy : f sy = eI g 8 sa) (hn : n ≤ 8) (hrn : ∀ k, k < 12 → ∃ b, rn k = b2i b) (hSg : Sgs g L f n ed so el kd nu) : TW l g yX4_says wsX4_says 7 111 2 12 L f sz [.ref lo, .int x, .int day] (fun r f2 => (∃ j k, j < n ∧ x = nI j ∧ k < 1000 ∧ day = nI k ∧ r = b2i (sayB (kd j) (nu j) gl rn k)) ∧ f2 = f) (fun E => (E = "java/lang/IndexOutOfBoundsException" ∧ inB x n = false) ∨ (E = "java/lang/IllegalArgumentException" ∧ inB x n = true ∧ inB day 1000 = false)) := by
  refine TW.start (cc := cX4_says) (maxL := 3) (ret := .boolean) hst (by decide) rfl (by simp [lg_sl, Value.category]) (by decide) (by decide) ?_
  intro p e s m args below meth c Q ls hx hb hml hts hown hS hP hK hZ hl hend hthr hprop
  have hA : ∀ a ∈ L, AA L s.heap.size a := fun _ h => Or.inl h
  have hA2 : ∀ q, s.heap.size ≤ q → AA L s.heap.size q := fun _ h => Or.inr h
  have hl : lv_has ls 3 [(0, .ref lo), (1, .int x), (2, .int day)] := hl
  have hi_X4 : ∀ w ∈ u_ws RX4 TX4 6, w ∈ wsX4_says := by decide +kernel
  have hFr : Fr f f [] := Fr.rf
  have n_lo_al : lo ≠ al := ne_e hf_lo hf_al (by simp)
  have n_lo_we : lo ≠ we := ne_e hf_lo hf_we (by simp)
  have n_lo_ga : lo ≠ ga := ne_e hf_lo hf_ga (by simp)
  have n_lo_ra : lo ≠ ra := ne_e hf_lo hf_ra (by simp)
  have n_lo_sy : lo ≠ sy := ne_e hf_lo hf_sy (by simp)
  have n_al_we : al ≠ we := ne_e hf_al hf_we (by simp)
  have n_al_ga : al ≠ ga := ne_e hf_al hf_ga (by simp)
  have n_al_ra : al ≠ ra := ne_e hf_al hf_ra (by simp)
  have n_al_sy : al ≠ sy := ne_e hf_al hf_sy (by simp)
  have n_we_ga : we ≠ ga := ne_e hf_we hf_ga (by simp)
  have n_we_ra : we ≠ ra := ne_e hf_we hf_ra (by simp)
  have n_we_sy : we ≠ sy := ne_e hf_we hf_sy (by simp)
  have n_ga_sy : ga ≠ sy := ne_e hf_ga hf_sy (by simp)
  have n_ra_sy : ra ≠ sy := ne_e hf_ra hf_sy (by simp)
  have h0f_lo := hf_lo
  have h0f_al := hf_al
  have h0f_we := hf_we
  have h0f_ga := hf_ga
  have h0f_ra := hf_ra
  have h0f_sy := hf_sy
  refine lv_aload_n hx hb dX4_says_0 rfl (lv_at hl 0 rfl) ?_
  refine lv_iload_n hx hb dX4_says_1 rfl (lv_at hl 1 rfl) ?_
  refine tv_V (As := [.int x]) (rest := []) ⟨hx, hb, hml, hown, hts⟩ (m_X4_requireSign l hst g L f _ hN _ _ _ _ _ _ _ _ _ _ x hL_lo hf_lo hL_al hf_al) (cwV 1 hts gX4_says_X4_requireSign rfl rfl rfl (by decide +kernel) ⟨Nat.le_of_ble_eq_true rfl, Nat.le_of_ble_eq_true rfl⟩) hK hZ hP hS hL_lo hf_lo rfl rfl hl.1 rfl (Nat.le_of_ble_eq_true rfl) dX4_says_2 ⟨(Nat.le_of_ble_eq_true rfl), (Nat.le_of_ble_eq_true rfl)⟩ (fun E ce q9 H locs hxc hP hS hce hcv hcl => hprop E ce q9 _ _ _ _ _ _ _ (Or.inl hxc) hP hS hce hcv hcl (Nat.le_of_ble_eq_true rfl) (Nat.le_of_ble_eq_true rfl)) (fun f2 H locs hr2 hP hS => ?_)
  obtain ⟨hr2, hq2⟩ := hr2
  rw [hq2] at hP
  obtain ⟨j, hj, rfl⟩ := inB_of hr2 (by omega)
  obtain ⟨hL_so_j, hf_so_j, hel_so_j, hL_ed, hf_ed⟩ := hSg j (by omega)
  refine lv_iload_n hx hb dX4_says_5 rfl (lv_at hl 2 rfl) ?_
  refine lv_if_lt (tgt := 16) hx hb dX4_says_6 (by decide) (fun c6 => ?_) (fun c6 => ?_)
  · skip
    exact hthr "java/lang/IllegalArgumentException" "the day is 0 to 999" 57 12 42 126 46 _ _ _ _ 16 _ (Or.inr ⟨rfl, hr2, le_out1 (k := 999) (by omega) c6⟩) hP hS (Nat.le_of_ble_eq_true rfl) (Nat.le_of_ble_eq_true rfl) (by decide +kernel) rfl rfl (hts (.classLink RX4 42 "java/lang/IllegalArgumentException") (by decide +kernel)) (hts (.initialized "java/lang/IllegalArgumentException") (by decide +kernel)) (by decide +kernel) (by decide +kernel) (by decide +kernel) hl.1 ⟨dX4_says_16, dX4_says_19, dX4_says_20, dX4_says_22, dX4_says_25⟩
  · skip
    refine lv_iload_n hx hb dX4_says_9 rfl (lv_at hl 2 rfl) ?_
    refine lv_sipush (v := 999) hx hb dX4_says_10 (by decide) ?_
    refine lv_icmp_le (tgt := 26) hx hb dX4_says_13 (by decide) (fun c13 => ?_) (fun c13 => ?_)
    · skip
      obtain ⟨k, hk, rfl⟩ := inB_of (le_in (k := 999) (by omega) c6 c13) (by omega)
      refine lv_aload_n hx hb dX4_says_26 rfl (lv_at hl 0 rfl) ?_
      refine pg_get (C := RX4) (T := TX4) (N := 6) hx hb hts hi_X4 hown hK hP hL_lo hf_lo rfl 1 (by decide) (hts (.fieldLink RX4 19 "BarometerLeague" "signs" "Ljava/util/ArrayList;") (by decide +kernel)) (fun _ h9 => h9) rfl dX4_says_27 ?_
      refine lv_iload_n hx hb dX4_says_30 rfl (lv_at hl 1 rfl) ?_
      refine rq_V (As := [.int (nI j)]) (rest := []) ⟨hx, hb, hml, hown, hts⟩ (m_Jx4a65c_get_915e3 l g L f al ed n (so j) j _ el hL_al hf_al hL_ed hf_ed (by omega) hn hel_so_j) (cwV 1 hts gX4_says_Jx4a65c_get_915e3 rfl rfl rfl (by decide +kernel) ⟨Nat.le_of_ble_eq_true rfl, Nat.le_of_ble_eq_true rfl⟩) hK hP hL_al hf_al rfl rfl hl.1 rfl (Nat.le_of_ble_eq_true rfl) dX4_says_31 ⟨(Nat.le_of_ble_eq_true rfl), (Nat.le_of_ble_eq_true rfl)⟩ ?_
      refine va_castS hx hb hown (hts (.classLink RX4 78 "BarometerLeague$Sign") (by decide +kernel)) (hK.1.1 1 _ rfl).2 (pg_recv hK hP hL_so_j hf_so_j rfl) dX4_says_34 ?_
      refine lv_aload_n hx hb dX4_says_37 rfl (lv_at hl 0 rfl) ?_
      refine pg_get (C := RX4) (T := TX4) (N := 6) hx hb hts hi_X4 hown hK hP hL_lo hf_lo rfl 0 (by decide) (hts (.fieldLink RX4 10 "BarometerLeague" "weather" "LBarometerLeague$Weather;") (by decide +kernel)) (fun _ h9 => h9) rfl dX4_says_38 ?_
      refine lv_iload_n hx hb dX4_says_41 rfl (lv_at hl 2 rfl) ?_
      refine ro_V (As := [.ref we, .int (nI k)]) (rest := []) ⟨hx, hb, hml, hown, hts⟩ (m_X0_saysRain l g L f _ _ _ _ _ _ _ _ _ hL_so_j hf_so_j hL_we hf_we hL_ga hf_ga hL_ra hf_ra hrn (by omega)) (cwV 2 hts gX4_says_X0_saysRain rfl rfl rfl (by decide +kernel) ⟨Nat.le_of_ble_eq_true rfl, Nat.le_of_ble_eq_true rfl⟩) hK hP hL_so_j hf_so_j rfl rfl hl.1 rfl (Nat.le_of_ble_eq_true rfl) dX4_says_42 ⟨(Nat.le_of_ble_eq_true rfl), (Nat.le_of_ble_eq_true rfl)⟩ (fun r42 hr42 => ?_)
      have hr42 : r42 = b2i (sayB (kd j) (nu j) gl rn k) := hr42
      subst hr42
      exact hend (b2i (sayB (kd j) (nu j) gl rn k)) f _ _ _ _ _ _ (⟨⟨j, k, hj, rfl, hk, rfl, rfl⟩, rfl⟩) hP hS (b2i_n _) (Nat.le_of_ble_eq_true rfl) (Nat.le_of_ble_eq_true rfl) dX4_says_45
    · skip
      exact hthr "java/lang/IllegalArgumentException" "the day is 0 to 999" 57 12 42 126 46 _ _ _ _ 16 _ (Or.inr ⟨rfl, hr2, le_out2 (k := 999) (by omega) c13⟩) hP hS (Nat.le_of_ble_eq_true rfl) (Nat.le_of_ble_eq_true rfl) (by decide +kernel) rfl rfl (hts (.classLink RX4 42 "java/lang/IllegalArgumentException") (by decide +kernel)) (hts (.initialized "java/lang/IllegalArgumentException") (by decide +kernel)) (by decide +kernel) (by decide +kernel) (by decide +kernel) hl.1 ⟨dX4_says_16, dX4_says_19, dX4_says_20, dX4_says_22, dX4_says_25⟩

set_option maxHeartbeats 4000000 in
set_option maxRecDepth 100000 in
theorem m_X4_told (l : Launch) (hst : l.stackTraces = false) (g : GG) (L : List Nat) (f : Nat → va_E) (sz : Nat) (hN : L.Nodup) (lo we al rv d sy rt ed n ga ra : Nat) (mo : Int32) (gl rn sa kd nu : Nat → Int32) (so : Nat → Nat) (el : Nat → Option Nat) (pa nv : Nat) (pl : Nat → Option Nat) (ad aw : Nat → Nat) (vs : Nat → VV) (x what : Int32) (hL_lo : lo ∈ L) (hf_lo : f lo = eO 5 [.ref we, .ref al, .ref rv, .int (nI d), .ref sy, .ref rt]) (hL_al : al ∈ L) (hf_al : f al = eO 0 [.int mo, .ref ed, .int (nI n)]) (hL_we : we ∈ L) (hf_we : f we = eO 4 [.ref ga, .ref ra]) (hL_ga : ga ∈ L) (hf_ga : f ga = eI g 12 gl) (hL_ra : ra ∈ L) (hf_ra : f ra = eZ g 12 rn) (hL_sy : sy ∈ L) (hf_sy : f sy = eI g 8 sa) (hL_rv : rv ∈ L) (hf_rv : f rv = eO 3 [.ref pa, .int (nI nv)]) (hL_pa : pa ∈ L) (hf_pa : f pa = eV g 6 pl) (hn : n ≤ 8) (hrn : ∀ k, k < 12 → ∃ b, rn k = b2i b) (hSg : Sgs g L f n ed so el kd nu) (hnv : nv ≤ 6) (hpl : ∀ v, v < 6 → pl v = some (ad v)) (hV : Vils g L f 6 ad aw vs) : TW l g yX4_told wsX4_told 7 112 2 12 L f sz [.ref lo, .int x, .int what] (fun r f2 => (∃ j k, j < n ∧ x = nI j ∧ k < 4 ∧ what = nI k ∧ r = toldL kd nu gl rn vs nv j k) ∧ f2 = f) (fun E => E = "java/lang/IndexOutOfBoundsException" ∧ (inB x n && inB what 4) = false) := by
  refine TW.start (cc := cX4_told) (maxL := 4) (ret := .int) hst (by decide) rfl (by simp [lg_sl, Value.category]) (by decide) (by decide) ?_
  intro p e s m args below meth c Q ls hx hb hml hts hown hS hP hK hZ hl hend hthr hprop
  have hA : ∀ a ∈ L, AA L s.heap.size a := fun _ h => Or.inl h
  have hA2 : ∀ q, s.heap.size ≤ q → AA L s.heap.size q := fun _ h => Or.inr h
  have hl : lv_has ls 4 [(0, .ref lo), (1, .int x), (2, .int what)] := hl
  have hi_X0 : ∀ w ∈ u_ws RX0 TX0 2, w ∈ wsX4_told := by decide +kernel
  have hi_X4 : ∀ w ∈ u_ws RX4 TX4 6, w ∈ wsX4_told := by decide +kernel
  have hFr : Fr f f [] := Fr.rf
  have n_lo_al : lo ≠ al := ne_e hf_lo hf_al (by simp)
  have n_lo_we : lo ≠ we := ne_e hf_lo hf_we (by simp)
  have n_lo_ga : lo ≠ ga := ne_e hf_lo hf_ga (by simp)
  have n_lo_ra : lo ≠ ra := ne_e hf_lo hf_ra (by simp)
  have n_lo_sy : lo ≠ sy := ne_e hf_lo hf_sy (by simp)
  have n_lo_rv : lo ≠ rv := ne_e hf_lo hf_rv (by simp)
  have n_lo_pa : lo ≠ pa := ne_e hf_lo hf_pa (by simp)
  have n_al_we : al ≠ we := ne_e hf_al hf_we (by simp)
  have n_al_ga : al ≠ ga := ne_e hf_al hf_ga (by simp)
  have n_al_ra : al ≠ ra := ne_e hf_al hf_ra (by simp)
  have n_al_sy : al ≠ sy := ne_e hf_al hf_sy (by simp)
  have n_al_rv : al ≠ rv := ne_e hf_al hf_rv (by simp)
  have n_al_pa : al ≠ pa := ne_e hf_al hf_pa (by simp)
  have n_we_ga : we ≠ ga := ne_e hf_we hf_ga (by simp)
  have n_we_ra : we ≠ ra := ne_e hf_we hf_ra (by simp)
  have n_we_sy : we ≠ sy := ne_e hf_we hf_sy (by simp)
  have n_we_rv : we ≠ rv := ne_e hf_we hf_rv (by simp)
  have n_we_pa : we ≠ pa := ne_e hf_we hf_pa (by simp)
  have n_ga_sy : ga ≠ sy := ne_e hf_ga hf_sy (by simp)
  have n_ga_rv : ga ≠ rv := ne_e hf_ga hf_rv (by simp)
  have n_ga_pa : ga ≠ pa := ne_e hf_ga hf_pa (by simp)
  have n_ra_sy : ra ≠ sy := ne_e hf_ra hf_sy (by simp)
  have n_ra_rv : ra ≠ rv := ne_e hf_ra hf_rv (by simp)
  have n_ra_pa : ra ≠ pa := ne_e hf_ra hf_pa (by simp)
  have n_sy_rv : sy ≠ rv := ne_e hf_sy hf_rv (by simp)
  have n_sy_pa : sy ≠ pa := ne_e hf_sy hf_pa (by simp)
  have n_rv_pa : rv ≠ pa := ne_e hf_rv hf_pa (by simp)
  have h0f_lo := hf_lo
  have h0f_al := hf_al
  have h0f_we := hf_we
  have h0f_ga := hf_ga
  have h0f_ra := hf_ra
  have h0f_sy := hf_sy
  have h0f_rv := hf_rv
  have h0f_pa := hf_pa
  refine lv_aload_n hx hb dX4_told_0 rfl (lv_at hl 0 rfl) ?_
  refine lv_iload_n hx hb dX4_told_1 rfl (lv_at hl 1 rfl) ?_
  refine tv_V (As := [.int x]) (rest := []) ⟨hx, hb, hml, hown, hts⟩ (m_X4_requireSign l hst g L f _ hN _ _ _ _ _ _ _ _ _ _ x hL_lo hf_lo hL_al hf_al) (cwV 1 hts gX4_told_X4_requireSign rfl rfl rfl (by decide +kernel) ⟨Nat.le_of_ble_eq_true rfl, Nat.le_of_ble_eq_true rfl⟩) hK hZ hP hS hL_lo hf_lo rfl rfl hl.1 rfl (Nat.le_of_ble_eq_true rfl) dX4_told_2 ⟨(Nat.le_of_ble_eq_true rfl), (Nat.le_of_ble_eq_true rfl)⟩ (fun E ce q9 H locs hxc hP hS hce hcv hcl => hprop E ce q9 _ _ _ _ _ _ _ (⟨hxc.1, by rw [hxc.2]; rfl⟩) hP hS hce hcv hcl (Nat.le_of_ble_eq_true rfl) (Nat.le_of_ble_eq_true rfl)) (fun f2 H locs hr2 hP hS => ?_)
  obtain ⟨hr2, hq2⟩ := hr2
  rw [hq2] at hP
  obtain ⟨j, hj, rfl⟩ := inB_of hr2 (by omega)
  obtain ⟨hL_so_j, hf_so_j, hel_so_j, hL_ed, hf_ed⟩ := hSg j (by omega)
  refine lv_iload_n hx hb dX4_told_5 rfl (lv_at hl 2 rfl) ?_
  refine lv_iconst (v := 0) hx hb dX4_told_6 (by decide) ?_
  refine lv_iconst (v := 3) hx hb dX4_told_7 (by decide) ?_
  refine tv_S (As := [.int what, .int 0, .int 3]) (rest := []) ⟨hx, hb, hml, hown, hts⟩ (m_X4_requireWhat l hst g L f _ hN what _ _ ) (va_cwS 3 hts gX4_told_X4_requireWhat rfl rfl rfl (by decide +kernel) ⟨Nat.le_of_ble_eq_true rfl, Nat.le_of_ble_eq_true rfl⟩) hK hZ hP hS rfl hl.1 rfl (Nat.le_of_ble_eq_true rfl) dX4_told_8 ⟨(Nat.le_of_ble_eq_true rfl), (Nat.le_of_ble_eq_true rfl)⟩ (fun E ce q9 H locs hxc hP hS hce hcv hcl => hprop E ce q9 _ _ _ _ _ _ _ (⟨hxc.1, by rw [hr2, show inB what 4 = false from (inB_le (k := 3) (by omega)).trans hxc.2]; rfl⟩) hP hS hce hcv hcl (Nat.le_of_ble_eq_true rfl) (Nat.le_of_ble_eq_true rfl)) (fun f8 H locs hr8 hP hS => ?_)
  obtain ⟨hr8, hq8⟩ := hr8
  rw [hq8] at hP
  obtain ⟨k, hk, rfl⟩ := wh_in (k := 3) (by omega) hr8
  refine lv_aload_n hx hb dX4_told_11 rfl (lv_at hl 0 rfl) ?_
  refine pg_get (C := RX4) (T := TX4) (N := 6) hx hb hts hi_X4 hown hK hP hL_lo hf_lo rfl 1 (by decide) (hts (.fieldLink RX4 19 "BarometerLeague" "signs" "Ljava/util/ArrayList;") (by decide +kernel)) (fun _ h9 => h9) rfl dX4_told_12 ?_
  refine lv_iload_n hx hb dX4_told_15 rfl (lv_at hl 1 rfl) ?_
  refine rq_V (As := [.int (nI j)]) (rest := []) ⟨hx, hb, hml, hown, hts⟩ (m_Jx4a65c_get_915e3 l g L f al ed n (so j) j _ el hL_al hf_al hL_ed hf_ed (by omega) hn hel_so_j) (cwV 1 hts gX4_told_Jx4a65c_get_915e3 rfl rfl rfl (by decide +kernel) ⟨Nat.le_of_ble_eq_true rfl, Nat.le_of_ble_eq_true rfl⟩) hK hP hL_al hf_al rfl rfl hl.1 rfl (Nat.le_of_ble_eq_true rfl) dX4_told_16 ⟨(Nat.le_of_ble_eq_true rfl), (Nat.le_of_ble_eq_true rfl)⟩ ?_
  refine va_castS hx hb hown (hts (.classLink RX4 78 "BarometerLeague$Sign") (by decide +kernel)) (hK.1.1 1 _ rfl).2 (pg_recv hK hP hL_so_j hf_so_j rfl) dX4_told_19 ?_
  refine lv_astore_n (lv' := [(3, .ref (so j)), (0, .ref lo), (1, .int (nI j)), (2, .int (nI k))]) hx hb dX4_told_22 rfl hl (by decide) rfl (fun ls hl => ?_)
  refine lv_iload_n hx hb dX4_told_23 rfl (lv_at hl 3 rfl) ?_
  by_cases k24_0 : k = 0
  · have q : (nI k).toInt = 0 := by rw [k24_0]; rfl
    refine lv_tableIn (off := 28) (tgt := 52) hx hb dX4_told_24 (by rw [q]; decide) (by rw [q]; decide) (by rw [q]; rfl) (by decide) ?_
    refine lv_aload_n hx hb dX4_told_52 rfl (lv_at hl 0 rfl) ?_
    refine pg_getN (C := RX0) (T := TX0) (N := 2) hx hb hts hi_X0 hown hK hP hL_so_j hf_so_j rfl 0 (by decide) (hK.nest 5 rfl) (fun _ h9 => h9) rfl dX4_told_53 ?_
    exact hend (kd j) f _ _ _ _ _ _ (⟨⟨j, k, hj, rfl, hk, rfl, by unfold toldL; rw [if_pos k24_0]⟩, rfl⟩) hP hS rfl (Nat.le_of_ble_eq_true rfl) (Nat.le_of_ble_eq_true rfl) dX4_told_56
  have q24_0 : (nI k).toInt ≠ 0 := by rw [nI_toInt (by omega)]; omega
  by_cases k24_1 : k = 1
  · have q : (nI k).toInt = 1 := by rw [k24_1]; rfl
    refine lv_tableIn (off := 33) (tgt := 57) hx hb dX4_told_24 (by rw [q]; decide) (by rw [q]; decide) (by rw [q]; rfl) (by decide) ?_
    refine lv_aload_n hx hb dX4_told_57 rfl (lv_at hl 0 rfl) ?_
    refine pg_getN (C := RX0) (T := TX0) (N := 2) hx hb hts hi_X0 hown hK hP hL_so_j hf_so_j rfl 1 (by decide) (hK.nest 6 rfl) (fun _ h9 => h9) rfl dX4_told_58 ?_
    exact hend (nu j) f _ _ _ _ _ _ (⟨⟨j, k, hj, rfl, hk, rfl, by unfold toldL; rw [if_neg k24_0, if_pos k24_1]⟩, rfl⟩) hP hS rfl (Nat.le_of_ble_eq_true rfl) (Nat.le_of_ble_eq_true rfl) dX4_told_61
  have q24_1 : (nI k).toInt ≠ 1 := by rw [nI_toInt (by omega)]; omega
  by_cases k24_2 : k = 2
  · have q : (nI k).toInt = 2 := by rw [k24_2]; rfl
    refine lv_tableIn (off := 38) (tgt := 62) hx hb dX4_told_24 (by rw [q]; decide) (by rw [q]; decide) (by rw [q]; rfl) (by decide) ?_
    refine lv_aload_n hx hb dX4_told_62 rfl (lv_at hl 0 rfl) ?_
    refine lv_aload_n hx hb dX4_told_63 rfl (lv_at hl 1 rfl) ?_
    refine pg_get (C := RX4) (T := TX4) (N := 6) hx hb hts hi_X4 hown hK hP hL_lo hf_lo rfl 0 (by decide) (hts (.fieldLink RX4 10 "BarometerLeague" "weather" "LBarometerLeague$Weather;") (by decide +kernel)) (fun _ h9 => h9) rfl dX4_told_64 ?_
    refine ro_V (As := [.ref we]) (rest := []) ⟨hx, hb, hml, hown, hts⟩ (m_X0_daysRight l g L f _ _ _ _ _ _ _ _ hL_so_j hf_so_j hL_we hf_we hL_ga hf_ga hL_ra hf_ra hrn) (cwV 1 hts gX4_told_X0_daysRight rfl rfl rfl (by decide +kernel) ⟨Nat.le_of_ble_eq_true rfl, Nat.le_of_ble_eq_true rfl⟩) hK hP hL_so_j hf_so_j rfl rfl hl.1 rfl (Nat.le_of_ble_eq_true rfl) dX4_told_67 ⟨(Nat.le_of_ble_eq_true rfl), (Nat.le_of_ble_eq_true rfl)⟩ (fun r67 hr67 => ?_)
    have hr67 : r67 = rightN (kd j) (nu j) gl rn 12 := hr67
    subst hr67
    exact hend (rightN (kd j) (nu j) gl rn 12) f _ _ _ _ _ _ (⟨⟨j, k, hj, rfl, hk, rfl, by unfold toldL; rw [if_neg k24_0, if_neg k24_1, if_pos k24_2]⟩, rfl⟩) hP hS rfl (Nat.le_of_ble_eq_true rfl) (Nat.le_of_ble_eq_true rfl) dX4_told_70
  have q24_2 : (nI k).toInt ≠ 2 := by rw [nI_toInt (by omega)]; omega
  refine lv_tableOut (tgt := 71) hx hb dX4_told_24 (by omega) (by decide) ?_
  refine lv_aload_n hx hb dX4_told_71 rfl (lv_at hl 1 rfl) ?_
  refine pg_get (C := RX4) (T := TX4) (N := 6) hx hb hts hi_X4 hown hK hP hL_lo hf_lo rfl 2 (by decide) (hts (.fieldLink RX4 28 "BarometerLeague" "villages" "LBarometerLeague$VillageRow;") (by decide +kernel)) (fun _ h9 => h9) rfl dX4_told_72 ?_
  refine lv_iload_n hx hb dX4_told_75 rfl (lv_at hl 2 rfl) ?_
  refine ro_V (As := [.int (nI j)]) (rest := []) ⟨hx, hb, hml, hown, hts⟩ (m_X2_allWeightsOf l g L f _ _ _ _ _ _ _ _ j hL_rv hf_rv hL_pa hf_pa (by omega) hnv hpl hV (by omega)) (cwV 1 hts gX4_told_X2_allWeightsOf rfl rfl rfl (by decide +kernel) ⟨Nat.le_of_ble_eq_true rfl, Nat.le_of_ble_eq_true rfl⟩) hK hP hL_rv hf_rv rfl rfl hl.1 rfl (Nat.le_of_ble_eq_true rfl) dX4_told_76 ⟨(Nat.le_of_ble_eq_true rfl), (Nat.le_of_ble_eq_true rfl)⟩ (fun r76 hr76 => ?_)
  have hr76 : r76 = sumN (fun v => (vs v).2.2.2.2 j) nv := hr76
  subst hr76
  exact hend (sumN (fun v => (vs v).2.2.2.2 j) nv) f _ _ _ _ _ _ (⟨⟨j, k, hj, rfl, hk, rfl, by unfold toldL; rw [if_neg k24_0, if_neg k24_1, if_neg k24_2]⟩, rfl⟩) hP hS rfl (Nat.le_of_ble_eq_true rfl) (Nat.le_of_ble_eq_true rfl) dX4_told_79

set_option maxHeartbeats 4000000 in
set_option maxRecDepth 100000 in
theorem m_X4_weight (l : Launch) (hst : l.stackTraces = false) (g : GG) (L : List Nat) (f : Nat → va_E) (sz : Nat) (hN : L.Nodup) (lo we al rv d sy rt ed n : Nat) (mo : Int32) (pa nv : Nat) (pl : Nat → Option Nat) (ad aw : Nat → Nat) (vs : Nat → VV) (v x : Int32) (hL_lo : lo ∈ L) (hf_lo : f lo = eO 5 [.ref we, .ref al, .ref rv, .int (nI d), .ref sy, .ref rt]) (hL_al : al ∈ L) (hf_al : f al = eO 0 [.int mo, .ref ed, .int (nI n)]) (hL_rv : rv ∈ L) (hf_rv : f rv = eO 3 [.ref pa, .int (nI nv)]) (hL_pa : pa ∈ L) (hf_pa : f pa = eV g 6 pl) (hn : n ≤ 8) (hnv : nv ≤ 6) (hpl : ∀ v, v < 6 → pl v = some (ad v)) (hV : Vils g L f 6 ad aw vs) : TW l g yX4_weight wsX4_weight 7 111 2 12 L f sz [.ref lo, .int v, .int x] (fun r f2 => (∃ u j, u < nv ∧ v = nI u ∧ j < n ∧ x = nI j ∧ r = (vs u).2.2.2.2 j) ∧ f2 = f) (fun E => E = "java/lang/IndexOutOfBoundsException" ∧ (inB v nv && inB x n) = false) := by
  refine TW.start (cc := cX4_weight) (maxL := 4) (ret := .int) hst (by decide) rfl (by simp [lg_sl, Value.category]) (by decide) (by decide) ?_
  intro p e s m args below meth c Q ls hx hb hml hts hown hS hP hK hZ hl hend hthr hprop
  have hA : ∀ a ∈ L, AA L s.heap.size a := fun _ h => Or.inl h
  have hA2 : ∀ q, s.heap.size ≤ q → AA L s.heap.size q := fun _ h => Or.inr h
  have hl : lv_has ls 4 [(0, .ref lo), (1, .int v), (2, .int x)] := hl
  have hi_X4 : ∀ w ∈ u_ws RX4 TX4 6, w ∈ wsX4_weight := by decide +kernel
  have hFr : Fr f f [] := Fr.rf
  have n_lo_al : lo ≠ al := ne_e hf_lo hf_al (by simp)
  have n_lo_rv : lo ≠ rv := ne_e hf_lo hf_rv (by simp)
  have n_lo_pa : lo ≠ pa := ne_e hf_lo hf_pa (by simp)
  have n_al_rv : al ≠ rv := ne_e hf_al hf_rv (by simp)
  have n_al_pa : al ≠ pa := ne_e hf_al hf_pa (by simp)
  have n_rv_pa : rv ≠ pa := ne_e hf_rv hf_pa (by simp)
  have h0f_lo := hf_lo
  have h0f_al := hf_al
  have h0f_rv := hf_rv
  have h0f_pa := hf_pa
  refine lv_aload_n hx hb dX4_weight_0 rfl (lv_at hl 0 rfl) ?_
  refine pg_get (C := RX4) (T := TX4) (N := 6) hx hb hts hi_X4 hown hK hP hL_lo hf_lo rfl 2 (by decide) (hts (.fieldLink RX4 28 "BarometerLeague" "villages" "LBarometerLeague$VillageRow;") (by decide +kernel)) (fun _ h9 => h9) rfl dX4_weight_1 ?_
  refine lv_iload_n hx hb dX4_weight_4 rfl (lv_at hl 1 rfl) ?_
  refine tr_V (As := [.int v]) (rest := []) ⟨hx, hb, hml, hown, hts⟩ (m_X2_get l hst g L f _ hN _ _ _ _ _ ad aw v hL_rv hf_rv hL_pa hf_pa (by omega) hnv hpl) (cwV 1 hts gX4_weight_X2_get rfl rfl rfl (by decide +kernel) ⟨Nat.le_of_ble_eq_true rfl, Nat.le_of_ble_eq_true rfl⟩) hK hZ hP hS hL_rv hf_rv rfl rfl hl.1 rfl (Nat.le_of_ble_eq_true rfl) dX4_weight_5 ⟨(Nat.le_of_ble_eq_true rfl), (Nat.le_of_ble_eq_true rfl)⟩ (fun E ce q9 H locs hxc hP hS hce hcv hcl => hprop E ce q9 _ _ _ _ _ _ _ (⟨hxc.1, by rw [hxc.2]; rfl⟩) hP hS hce hcv hcl (Nat.le_of_ble_eq_true rfl) (Nat.le_of_ble_eq_true rfl)) (fun x5 H locs hr5 hP hS => ?_)
  obtain ⟨u, hu, rfl, rfl⟩ := hr5
  have q5 := hV u (by omega)
  obtain ⟨hL_ad_u, hf_ad_u, hL_aw_u, hf_aw_u⟩ := q5
  refine lv_astore_n (lv' := [(3, .ref (ad u)), (0, .ref lo), (1, .int (nI u)), (2, .int x)]) hx hb dX4_weight_8 rfl hl (by decide) rfl (fun ls hl => ?_)
  refine lv_aload_n hx hb dX4_weight_9 rfl (lv_at hl 1 rfl) ?_
  refine lv_iload_n hx hb dX4_weight_10 rfl (lv_at hl 3 rfl) ?_
  refine tv_V (As := [.int x]) (rest := []) ⟨hx, hb, hml, hown, hts⟩ (m_X4_requireSign l hst g L f _ hN _ _ _ _ _ _ _ _ _ _ x hL_lo hf_lo hL_al hf_al) (cwV 1 hts gX4_weight_X4_requireSign rfl rfl rfl (by decide +kernel) ⟨Nat.le_of_ble_eq_true rfl, Nat.le_of_ble_eq_true rfl⟩) hK hZ hP hS hL_lo hf_lo rfl rfl hl.1 rfl (Nat.le_of_ble_eq_true rfl) dX4_weight_11 ⟨(Nat.le_of_ble_eq_true rfl), (Nat.le_of_ble_eq_true rfl)⟩ (fun E ce q9 H locs hxc hP hS hce hcv hcl => hprop E ce q9 _ _ _ _ _ _ _ (⟨hxc.1, by rw [hxc.2, Bool.and_false]⟩) hP hS hce hcv hcl (Nat.le_of_ble_eq_true rfl) (Nat.le_of_ble_eq_true rfl)) (fun f11 H locs hr11 hP hS => ?_)
  obtain ⟨hr11, hq11⟩ := hr11
  rw [hq11] at hP
  obtain ⟨j, hj, rfl⟩ := inB_of hr11 (by omega)
  refine lv_aload_n hx hb dX4_weight_14 rfl (lv_at hl 0 rfl) ?_
  refine lv_iload_n hx hb dX4_weight_15 rfl (lv_at hl 3 rfl) ?_
  refine ro_V (As := [.int (nI j)]) (rest := []) ⟨hx, hb, hml, hown, hts⟩ (m_X1_weightOf l g L f _ _ _ _ _ _ _ j hL_ad_u hf_ad_u hL_aw_u hf_aw_u (by omega)) (cwV 1 hts gX4_weight_X1_weightOf rfl rfl rfl (by decide +kernel) ⟨Nat.le_of_ble_eq_true rfl, Nat.le_of_ble_eq_true rfl⟩) hK hP hL_ad_u hf_ad_u rfl rfl hl.1 rfl (Nat.le_of_ble_eq_true rfl) dX4_weight_16 ⟨(Nat.le_of_ble_eq_true rfl), (Nat.le_of_ble_eq_true rfl)⟩ (fun r16 hr16 => ?_)
  have hr16 : r16 = (vs u).2.2.2.2 j := hr16
  subst hr16
  exact hend ((vs u).2.2.2.2 j) f _ _ _ _ _ _ (⟨⟨u, j, hu, rfl, hj, rfl, rfl⟩, rfl⟩) hP hS rfl (Nat.le_of_ble_eq_true rfl) (Nat.le_of_ble_eq_true rfl) dX4_weight_19
