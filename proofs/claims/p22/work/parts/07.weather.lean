set_option maxHeartbeats 4000000 in
set_option maxRecDepth 100000 in
theorem m_J9_floorMod_7cf53 (l : Launch) (g : GG) (L : List Nat) (f : Nat → va_E) (x : Int32) (j : Nat) (hd : dIx x j) : RO l g yJ9_floorMod_7cf53 wsJ9_floorMod_7cf53 0 0 L f [.int x, .int 12] (fun r => r = nI j) := by
  refine RO.start (cc := cJ9_floorMod_7cf53) (maxL := 3) (ret := .int) (by decide +kernel) rfl (by simp [lg_sl, Value.category]) ?_
  intro p e s m args below meth c Q ls hx hb hml hts hown hP hK hl hend
  have hl : lv_has ls 3 [(0, .int x), (1, .int 12)] := hl
  rcases hd with ⟨d, hd1, rfl, rfl⟩ | ⟨rfl, rfl⟩
  · skip
    refine lv_iload_n hx hb dJ9_floorMod_7cf53_0 rfl (lv_at hl 0 rfl) ?_
    refine lv_iload_n hx hb dJ9_floorMod_7cf53_1 rfl (lv_at hl 1 rfl) ?_
    refine lv_irem hx hb dJ9_floorMod_7cf53_2 (by decide) ?_
    refine lv_topi (fun v2 ev2 => ?_)
    have ev2 : v2 = nI (d % 12) := by rw [ev2]; exact pk_rem (d := 12) (by omega) (by decide) (by decide)
    refine lv_istore_n (lv' := [(2, .int v2), (0, .int (nI d)), (1, .int 12)]) hx hb dJ9_floorMod_7cf53_3 rfl hl (by decide) rfl (fun ls hl => ?_)
    refine lv_iload_n hx hb dJ9_floorMod_7cf53_4 rfl (lv_at hl 1 rfl) ?_
    refine lv_iload_n hx hb dJ9_floorMod_7cf53_5 rfl (lv_at hl 2 rfl) ?_
    refine lv_ixor hx hb dJ9_floorMod_7cf53_6 ?_
    refine lv_topi (fun v6 ev6 => ?_)
    refine lv_if_ge (tgt := 18) hx hb dJ9_floorMod_7cf53_7 (by decide) (fun c7 => ?_) (fun c7 => by exfalso; rw [ev6] at c7; exact c7 (Int32.not_lt.mp (xor12 hd1)))
    refine lv_iload_n hx hb dJ9_floorMod_7cf53_18 rfl (lv_at hl 0 rfl) ?_
    exact hend (v2) _ _ (ev2) rfl dJ9_floorMod_7cf53_19
  · skip
    refine lv_iload_n hx hb dJ9_floorMod_7cf53_0 rfl (lv_at hl 0 rfl) ?_
    refine lv_iload_n hx hb dJ9_floorMod_7cf53_1 rfl (lv_at hl 1 rfl) ?_
    refine lv_irem hx hb dJ9_floorMod_7cf53_2 (by decide) ?_
    refine lv_topi (fun v2 ev2 => ?_)
    have ev2 : v2 = -1 := by rw [ev2]; decide
    refine lv_istore_n (lv' := [(2, .int v2), (0, .int (-1)), (1, .int 12)]) hx hb dJ9_floorMod_7cf53_3 rfl hl (by decide) rfl (fun ls hl => ?_)
    refine lv_iload_n hx hb dJ9_floorMod_7cf53_4 rfl (lv_at hl 1 rfl) ?_
    refine lv_iload_n hx hb dJ9_floorMod_7cf53_5 rfl (lv_at hl 2 rfl) ?_
    refine lv_ixor hx hb dJ9_floorMod_7cf53_6 ?_
    refine lv_topi (fun v6 ev6 => ?_)
    refine lv_if_ge (tgt := 18) hx hb dJ9_floorMod_7cf53_7 (by decide) (fun c7 => by exfalso; rw [ev6] at c7; revert c7; decide) (fun c7 => ?_)
    refine lv_iload_n hx hb dJ9_floorMod_7cf53_10 rfl (lv_at hl 0 rfl) ?_
    refine lv_if_eq (tgt := 18) hx hb dJ9_floorMod_7cf53_11 (by decide) (fun c11 => by exfalso; rw [ev2] at c11; revert c11; decide) (fun c11 => ?_)
    refine lv_iload_n hx hb dJ9_floorMod_7cf53_14 rfl (lv_at hl 0 rfl) ?_
    refine lv_iload_n hx hb dJ9_floorMod_7cf53_15 rfl (lv_at hl 2 rfl) ?_
    refine lv_iadd hx hb dJ9_floorMod_7cf53_16 ?_
    refine lv_topi (fun v16 ev16 => ?_)
    exact hend (v16) _ _ (by rw [ev16, ev2]; decide) rfl dJ9_floorMod_7cf53_17

set_option maxHeartbeats 4000000 in
set_option maxRecDepth 100000 in
theorem m_X3_glassOn (l : Launch) (g : GG) (L : List Nat) (f : Nat → va_E) (h0 ga ra : Nat) (gl rn : Nat → Int32) (x : Int32) (j : Nat) (hL_h0 : h0 ∈ L) (hf_h0 : f h0 = eO 4 [.ref ga, .ref ra]) (hL_ga : ga ∈ L) (hf_ga : f ga = eI g 12 gl) (hL_ra : ra ∈ L) (hf_ra : f ra = eZ g 12 rn) (hd : dIx x j) : RO l g yX3_glassOn wsX3_glassOn 1 22 L f [.ref h0, .int x] (fun r => r = gl j) := by
  refine RO.start (cc := cX3_glassOn) (maxL := 2) (ret := .int) (by decide +kernel) rfl (by simp [lg_sl, Value.category]) ?_
  intro p e s m args below meth c Q ls hx hb hml hts hown hP hK hl hend
  have hl : lv_has ls 2 [(0, .ref h0), (1, .int x)] := hl
  have hi_X3 : ∀ w ∈ u_ws RX3 TX3 2, w ∈ wsX3_glassOn := by decide +kernel
  have n_h0_ga : h0 ≠ ga := ne_e hf_h0 hf_ga (by simp)
  have n_h0_ra : h0 ≠ ra := ne_e hf_h0 hf_ra (by simp)
  refine lv_aload_n hx hb dX3_glassOn_0 rfl (lv_at hl 0 rfl) ?_
  refine pg_get (C := RX3) (T := TX3) (N := 2) hx hb hts hi_X3 hown hK hP hL_h0 hf_h0 rfl 0 (by decide) (hts (.fieldLink RX3 9 "BarometerLeague$Weather" "glass" "[I") (by decide +kernel)) (fun _ h9 => h9) rfl dX3_glassOn_1 ?_
  refine lv_iload_n hx hb dX3_glassOn_4 rfl (lv_at hl 1 rfl) ?_
  refine lv_bipush (v := 12) hx hb dX3_glassOn_5 (by decide) ?_
  refine ro_S (As := [.int x, .int 12]) (rest := [.ref ga]) ⟨hx, hb, hml, hown, hts⟩ (m_J9_floorMod_7cf53 l g L f x j hd) (va_cwS 2 hts gX3_glassOn_J9_floorMod_7cf53 rfl rfl rfl (by decide +kernel) ⟨Nat.le_of_ble_eq_true rfl, Nat.le_of_ble_eq_true rfl⟩) hK hP rfl hl.1 rfl (Nat.le_of_ble_eq_true rfl) dX3_glassOn_7 ⟨Nat.zero_le _, Nat.zero_le _⟩ (fun r7 hr7 => ?_)
  have hj := dIx_lt hd
  refine pn_iald (j := j) hx hb hK hP hL_ga hf_ga hr7 (by omega) (Nat.lt_of_lt_of_le (m := 100) (by omega) (by omega)) dX3_glassOn_10 ?_
  exact hend (gl j) _ _ (by first | rfl | assumption | simp_all) rfl dX3_glassOn_11

set_option maxHeartbeats 4000000 in
set_option maxRecDepth 100000 in
theorem m_X3_rainsOn (l : Launch) (g : GG) (L : List Nat) (f : Nat → va_E) (h0 ga ra : Nat) (gl rn : Nat → Int32) (x : Int32) (j : Nat) (hL_h0 : h0 ∈ L) (hf_h0 : f h0 = eO 4 [.ref ga, .ref ra]) (hL_ga : ga ∈ L) (hf_ga : f ga = eI g 12 gl) (hL_ra : ra ∈ L) (hf_ra : f ra = eZ g 12 rn) (hd : dIx x j) (hrn : ∀ k, k < 12 → ∃ b, rn k = b2i b) : RO l g yX3_rainsOn wsX3_rainsOn 1 22 L f [.ref h0, .int x] (fun r => r = rn j) := by
  refine RO.start (cc := cX3_rainsOn) (maxL := 2) (ret := .boolean) (by decide +kernel) rfl (by simp [lg_sl, Value.category]) ?_
  intro p e s m args below meth c Q ls hx hb hml hts hown hP hK hl hend
  have hl : lv_has ls 2 [(0, .ref h0), (1, .int x)] := hl
  have hi_X3 : ∀ w ∈ u_ws RX3 TX3 2, w ∈ wsX3_rainsOn := by decide +kernel
  have n_h0_ga : h0 ≠ ga := ne_e hf_h0 hf_ga (by simp)
  have n_h0_ra : h0 ≠ ra := ne_e hf_h0 hf_ra (by simp)
  refine lv_aload_n hx hb dX3_rainsOn_0 rfl (lv_at hl 0 rfl) ?_
  refine pg_get (C := RX3) (T := TX3) (N := 2) hx hb hts hi_X3 hown hK hP hL_h0 hf_h0 rfl 1 (by decide) (hts (.fieldLink RX3 15 "BarometerLeague$Weather" "rain" "[Z") (by decide +kernel)) (fun _ h9 => h9) rfl dX3_rainsOn_1 ?_
  refine lv_iload_n hx hb dX3_rainsOn_4 rfl (lv_at hl 1 rfl) ?_
  refine lv_bipush (v := 12) hx hb dX3_rainsOn_5 (by decide) ?_
  refine ro_S (As := [.int x, .int 12]) (rest := [.ref ra]) ⟨hx, hb, hml, hown, hts⟩ (m_J9_floorMod_7cf53 l g L f x j hd) (va_cwS 2 hts gX3_rainsOn_J9_floorMod_7cf53 rfl rfl rfl (by decide +kernel) ⟨Nat.le_of_ble_eq_true rfl, Nat.le_of_ble_eq_true rfl⟩) hK hP rfl hl.1 rfl (Nat.le_of_ble_eq_true rfl) dX3_rainsOn_7 ⟨Nat.zero_le _, Nat.zero_le _⟩ (fun r7 hr7 => ?_)
  have hj := dIx_lt hd
  refine pn_zald (j := j) hx hb hK hP hL_ra hf_ra hr7 (by omega) (Nat.lt_of_lt_of_le (m := 100) (by omega) (by omega)) dX3_rainsOn_10 ?_
  exact hend (rn j) _ _ (rfl) (by obtain ⟨b, hb⟩ := hrn j hj; rw [hb]; exact b2i_n b) dX3_rainsOn_11

set_option maxHeartbeats 4000000 in
set_option maxRecDepth 100000 in
theorem m_X3_putGlass (l : Launch) (g : GG) (L : List Nat) (f : Nat → va_E) (sz : Nat) (hN : L.Nodup) (h0 ga ra : Nat) (gl rn : Nat → Int32) (x y : Int32) (j : Nat) (hL_h0 : h0 ∈ L) (hf_h0 : f h0 = eO 4 [.ref ga, .ref ra]) (hL_ga : ga ∈ L) (hf_ga : f ga = eI g 12 gl) (hL_ra : ra ∈ L) (hf_ra : f ra = eZ g 12 rn) (n_ga_ra : ga ≠ ra) (hd : dIx x j) : RV l g yX3_putGlass wsX3_putGlass 1 22 L f sz [.ref h0, .int x, .int y] (fun f2 => f2 ga = eI g 12 (upd gl j y) ∧ Fr f f2 [ga]) := by
  refine RV.start (cc := cX3_putGlass) (maxL := 3) (by decide +kernel) rfl (by simp [lg_sl, Value.category]) ?_
  intro p e s m args below meth c Q ls A hx hb hml hts hown hA hA2 hS hP hK hl hend
  have hl : lv_has ls 3 [(0, .ref h0), (1, .int x), (2, .int y)] := hl
  have hi_X3 : ∀ w ∈ u_ws RX3 TX3 2, w ∈ wsX3_putGlass := by decide +kernel
  have hFr : Fr f f [ga] := Fr.rf
  have n_h0_ga : h0 ≠ ga := ne_e hf_h0 hf_ga (by simp)
  have n_h0_ra : h0 ≠ ra := ne_e hf_h0 hf_ra (by simp)
  have h0f_h0 := hf_h0
  have h0f_ga := hf_ga
  have h0f_ra := hf_ra
  refine lv_aload_n hx hb dX3_putGlass_0 rfl (lv_at hl 0 rfl) ?_
  refine pg_get (C := RX3) (T := TX3) (N := 2) hx hb hts hi_X3 hown hK hP hL_h0 hf_h0 rfl 0 (by decide) (hts (.fieldLink RX3 9 "BarometerLeague$Weather" "glass" "[I") (by decide +kernel)) (fun _ h9 => h9) rfl dX3_putGlass_1 ?_
  refine lv_iload_n hx hb dX3_putGlass_4 rfl (lv_at hl 1 rfl) ?_
  refine lv_bipush (v := 12) hx hb dX3_putGlass_5 (by decide) ?_
  refine ro_S (As := [.int x, .int 12]) (rest := [.ref ga]) ⟨hx, hb, hml, hown, hts⟩ (m_J9_floorMod_7cf53 l g L f x j hd) (va_cwS 2 hts gX3_putGlass_J9_floorMod_7cf53 rfl rfl rfl (by decide +kernel) ⟨Nat.le_of_ble_eq_true rfl, Nat.le_of_ble_eq_true rfl⟩) hK hP rfl hl.1 rfl (Nat.le_of_ble_eq_true rfl) dX3_putGlass_7 ⟨Nat.zero_le _, Nat.zero_le _⟩ (fun r7 hr7 => ?_)
  have hj := dIx_lt hd
  refine lv_iload_n hx hb dX3_putGlass_10 rfl (lv_at hl 2 rfl) ?_
  refine pn_iast (j := j) hx hb hK hP hN hA hS hL_ga hf_ga hr7 (by omega) (Nat.lt_of_lt_of_le (m := 100) (by omega) (by omega)) dX3_putGlass_11 (fun H locs hP hS => ?_)
  obtain ⟨f11, ef11⟩ : ∃ z, z = va_up f ga (eI g 12 (upd gl j y)) := ⟨_, rfl⟩
  replace hP : PP g L f11 H := by rw [ef11]; exact hP
  have hf_h0 : f11 h0 = eO 4 [.ref ga, .ref ra] := by rw [ef11, va_up_ne _ _ n_h0_ga]; exact hf_h0
  have hf_ra : f11 ra = eZ g 12 rn := by rw [ef11, va_up_ne _ _ n_ga_ra.symm]; exact hf_ra
  have hf_ga : f11 ga = eI g 12 (upd gl j y) := by rw [ef11]; exact va_up_self _ _ _
  replace hFr : Fr f f11 [ga] := by rw [ef11]; exact hFr.up (by simp)
  exact hend f11 _ _ _ _ (⟨by first | exact hf_ga | rw [hf_ga], hFr⟩) hP hS dX3_putGlass_12

set_option maxHeartbeats 4000000 in
set_option maxRecDepth 100000 in
theorem m_X3_putRain (l : Launch) (g : GG) (L : List Nat) (f : Nat → va_E) (sz : Nat) (hN : L.Nodup) (h0 ga ra : Nat) (gl rn : Nat → Int32) (x y : Int32) (j : Nat) (hL_h0 : h0 ∈ L) (hf_h0 : f h0 = eO 4 [.ref ga, .ref ra]) (hL_ga : ga ∈ L) (hf_ga : f ga = eI g 12 gl) (hL_ra : ra ∈ L) (hf_ra : f ra = eZ g 12 rn) (n_ga_ra : ga ≠ ra) (hd : dIx x j) (hy : ∃ b, y = b2i b) : RV l g yX3_putRain wsX3_putRain 1 22 L f sz [.ref h0, .int x, .int y] (fun f2 => f2 ra = eZ g 12 (upd rn j y) ∧ Fr f f2 [ra]) := by
  refine RV.start (cc := cX3_putRain) (maxL := 3) (by decide +kernel) rfl (by simp [lg_sl, Value.category]) ?_
  intro p e s m args below meth c Q ls A hx hb hml hts hown hA hA2 hS hP hK hl hend
  have hl : lv_has ls 3 [(0, .ref h0), (1, .int x), (2, .int y)] := hl
  have hi_X3 : ∀ w ∈ u_ws RX3 TX3 2, w ∈ wsX3_putRain := by decide +kernel
  have hFr : Fr f f [ra] := Fr.rf
  have n_h0_ga : h0 ≠ ga := ne_e hf_h0 hf_ga (by simp)
  have n_h0_ra : h0 ≠ ra := ne_e hf_h0 hf_ra (by simp)
  have h0f_h0 := hf_h0
  have h0f_ga := hf_ga
  have h0f_ra := hf_ra
  refine lv_aload_n hx hb dX3_putRain_0 rfl (lv_at hl 0 rfl) ?_
  refine pg_get (C := RX3) (T := TX3) (N := 2) hx hb hts hi_X3 hown hK hP hL_h0 hf_h0 rfl 1 (by decide) (hts (.fieldLink RX3 15 "BarometerLeague$Weather" "rain" "[Z") (by decide +kernel)) (fun _ h9 => h9) rfl dX3_putRain_1 ?_
  refine lv_iload_n hx hb dX3_putRain_4 rfl (lv_at hl 1 rfl) ?_
  refine lv_bipush (v := 12) hx hb dX3_putRain_5 (by decide) ?_
  refine ro_S (As := [.int x, .int 12]) (rest := [.ref ra]) ⟨hx, hb, hml, hown, hts⟩ (m_J9_floorMod_7cf53 l g L f x j hd) (va_cwS 2 hts gX3_putRain_J9_floorMod_7cf53 rfl rfl rfl (by decide +kernel) ⟨Nat.le_of_ble_eq_true rfl, Nat.le_of_ble_eq_true rfl⟩) hK hP rfl hl.1 rfl (Nat.le_of_ble_eq_true rfl) dX3_putRain_7 ⟨Nat.zero_le _, Nat.zero_le _⟩ (fun r7 hr7 => ?_)
  have hj := dIx_lt hd
  refine lv_iload_n hx hb dX3_putRain_10 rfl (lv_at hl 2 rfl) ?_
  refine pn_zast (j := j) hx hb hK hP hN hA hS hL_ra hf_ra hr7 (by omega) (Nat.lt_of_lt_of_le (m := 100) (by omega) (by omega)) (by obtain ⟨b, rfl⟩ := hy; exact b2i_v b) dX3_putRain_11 (fun H locs hP hS => ?_)
  obtain ⟨f11, ef11⟩ : ∃ z, z = va_up f ra (eZ g 12 (upd rn j y)) := ⟨_, rfl⟩
  replace hP : PP g L f11 H := by rw [ef11]; exact hP
  have hf_h0 : f11 h0 = eO 4 [.ref ga, .ref ra] := by rw [ef11, va_up_ne _ _ n_h0_ra]; exact hf_h0
  have hf_ga : f11 ga = eI g 12 gl := by rw [ef11, va_up_ne _ _ n_ga_ra]; exact hf_ga
  have hf_ra : f11 ra = eZ g 12 (upd rn j y) := by rw [ef11]; exact va_up_self _ _ _
  replace hFr : Fr f f11 [ra] := by rw [ef11]; exact hFr.up (by simp)
  exact hend f11 _ _ _ _ (⟨by first | exact hf_ra | rw [hf_ra], hFr⟩) hP hS dX3_putRain_12

set_option maxHeartbeats 4000000 in
set_option maxRecDepth 100000 in
theorem m_X3_rainyDays (l : Launch) (g : GG) (L : List Nat) (f : Nat → va_E) (h0 ga ra : Nat) (gl rn : Nat → Int32) (hL_h0 : h0 ∈ L) (hf_h0 : f h0 = eO 4 [.ref ga, .ref ra]) (hL_ga : ga ∈ L) (hf_ga : f ga = eI g 12 gl) (hL_ra : ra ∈ L) (hf_ra : f ra = eZ g 12 rn) (hrn : ∀ k, k < 12 → ∃ b, rn k = b2i b) : RO l g yX3_rainyDays wsX3_rainyDays 0 0 L f [.ref h0] (fun r => r = sumN rn 12) := by
  refine RO.start (cc := cX3_rainyDays) (maxL := 6) (ret := .int) (by decide +kernel) rfl (by simp [lg_sl, Value.category]) ?_
  intro p e s m args below meth c Q ls hx hb hml hts hown hP hK hl hend
  have hl : lv_has ls 6 [(0, .ref h0)] := hl
  have hi_X3 : ∀ w ∈ u_ws RX3 TX3 2, w ∈ wsX3_rainyDays := by decide +kernel
  have n_h0_ga : h0 ≠ ga := ne_e hf_h0 hf_ga (by simp)
  have n_h0_ra : h0 ≠ ra := ne_e hf_h0 hf_ra (by simp)
  refine lv_iconst (v := 0) hx hb dX3_rainyDays_0 (by decide) ?_
  refine lv_istore_n (lv' := [(1, .int 0), (0, .ref h0)]) hx hb dX3_rainyDays_1 rfl hl (by decide) rfl (fun ls hl => ?_)
  refine lv_aload_n hx hb dX3_rainyDays_2 rfl (lv_at hl 1 rfl) ?_
  refine pg_get (C := RX3) (T := TX3) (N := 2) hx hb hts hi_X3 hown hK hP hL_h0 hf_h0 rfl 1 (by decide) (hts (.fieldLink RX3 15 "BarometerLeague$Weather" "rain" "[Z") (by decide +kernel)) (fun _ h9 => h9) rfl dX3_rainyDays_3 ?_
  refine lv_astore_n (lv' := [(2, .ref ra), (1, .int 0), (0, .ref h0)]) hx hb dX3_rainyDays_6 rfl hl (by decide) rfl (fun ls hl => ?_)
  refine lv_aload_n hx hb dX3_rainyDays_7 rfl (lv_at hl 0 rfl) ?_
  refine pg_alen hx hb hK hP hL_ra hf_ra 1 rfl (v := nI 12) rfl dX3_rainyDays_8 ?_
  refine lv_istore_n (lv' := [(3, .int (nI 12)), (2, .ref ra), (1, .int 0), (0, .ref h0)]) hx hb dX3_rainyDays_9 rfl hl (by decide) rfl (fun ls hl => ?_)
  refine lv_iconst (v := 0) hx hb dX3_rainyDays_10 (by decide) ?_
  refine lv_istore (lv' := [(4, .int 0), (3, .int (nI 12)), (2, .ref ra), (1, .int 0), (0, .ref h0)]) hx hb dX3_rainyDays_11 hl (by decide) rfl (fun ls hl => ?_)
  have K13 : ∀ (n13 : Nat) (i : Nat) (acc : Int32), 12 - i < n13 → i ≤ 12 → acc = sumN rn i → ∀ (ls : Array Slot), lv_has ls 6 [(4, .int (nI i)), (3, .int (nI 12)), (2, .ref ra), (1, .int acc), (0, .ref h0)] → W p l e ({ frames := 0, cells := 0, slots := 0, locals := 0 } : Room) s m args below meth c s.heap [] 0 0 Q (F0 m 13 ls []) := by
    intro n13
    induction n13 with
    | zero => intros; omega
    | succ n13 ih13 =>
      intro i acc hm13 hi ha ls hl
      refine lv_iload hx hb dX3_rainyDays_13 (lv_at hl 0 rfl) ?_
      refine lv_iload_n hx hb dX3_rainyDays_15 rfl (lv_at hl 1 rfl) ?_
      refine lv_icmp_ge (tgt := 44) hx hb dX3_rainyDays_16 (by decide) (fun c16 => ?_) (fun c16 => ?_)
      · skip
        have c16 : 12 ≤ i := (nI_leI (a := 12) (b := i) (by omega) (by omega)).mp (show nI 12 ≤ nI i from c16)
        refine lv_iload_n hx hb dX3_rainyDays_44 rfl (lv_at hl 3 rfl) ?_
        exact hend (acc) _ _ (by rw [ha, show i = 12 from (by omega)]) rfl dX3_rainyDays_45
      · skip
        have c16 : ¬ 12 ≤ i := fun h => c16 ((nI_leI (a := 12) (b := i) (by omega) (by omega)).mpr h)
        refine lv_aload_n hx hb dX3_rainyDays_19 rfl (lv_at hl 2 rfl) ?_
        refine lv_iload hx hb dX3_rainyDays_20 (lv_at hl 0 rfl) ?_
        refine pn_zald (j := i) hx hb hK hP hL_ra hf_ra rfl (by omega) (Nat.lt_of_lt_of_le (m := 100) (by omega) (by omega)) dX3_rainyDays_22 ?_
        refine lv_istore (lv' := [(5, .int (rn i)), (4, .int (nI i)), (3, .int (nI 12)), (2, .ref ra), (1, .int acc), (0, .ref h0)]) hx hb dX3_rainyDays_23 hl (by decide) rfl (fun ls hl => ?_)
        refine lv_iload_n hx hb dX3_rainyDays_25 rfl (lv_at hl 4 rfl) ?_
        refine lv_iload hx hb dX3_rainyDays_26 (lv_at hl 0 rfl) ?_
        refine lv_if_eq (tgt := 35) hx hb dX3_rainyDays_28 (by decide) (fun c28 => ?_) (fun c28 => ?_)
        · skip
          refine lv_iconst (v := 0) hx hb dX3_rainyDays_35 (by decide) ?_
          refine lv_iadd hx hb dX3_rainyDays_36 ?_
          refine lv_topi (fun v36 ev36 => ?_)
          refine lv_istore_n (lv' := [(1, .int v36), (5, .int (rn i)), (4, .int (nI i)), (3, .int (nI 12)), (2, .ref ra), (0, .ref h0)]) hx hb dX3_rainyDays_37 rfl hl (by decide) rfl (fun ls hl => ?_)
          refine lv_iinc (v := nI (i + 1)) (lv' := [(4, .int (nI (i + 1))), (1, .int v36), (5, .int (rn i)), (3, .int (nI 12)), (2, .ref ra), (0, .ref h0)]) hx hb dX3_rainyDays_38 hl (k := 2) rfl (nI_1 _) (by decide) rfl (fun ls hl => ?_)
          refine lv_goto (tgt := 13) hx hb dX3_rainyDays_41 (by decide) ?_
          exact ih13 (i + 1) v36 (by omega) (by omega) (sumN_s ha (by rw [ev36, c28])) ls (lv_sub hl [0, 3, 4, 1, 5] rfl)
        · skip
          refine lv_iconst (v := 1) hx hb dX3_rainyDays_31 (by decide) ?_
          refine lv_goto (tgt := 36) hx hb dX3_rainyDays_32 (by decide) ?_
          refine lv_iadd hx hb dX3_rainyDays_36 ?_
          refine lv_topi (fun v36 ev36 => ?_)
          refine lv_istore_n (lv' := [(1, .int v36), (5, .int (rn i)), (4, .int (nI i)), (3, .int (nI 12)), (2, .ref ra), (0, .ref h0)]) hx hb dX3_rainyDays_37 rfl hl (by decide) rfl (fun ls hl => ?_)
          refine lv_iinc (v := nI (i + 1)) (lv' := [(4, .int (nI (i + 1))), (1, .int v36), (5, .int (rn i)), (3, .int (nI 12)), (2, .ref ra), (0, .ref h0)]) hx hb dX3_rainyDays_38 hl (k := 2) rfl (nI_1 _) (by decide) rfl (fun ls hl => ?_)
          refine lv_goto (tgt := 13) hx hb dX3_rainyDays_41 (by decide) ?_
          exact ih13 (i + 1) v36 (by omega) (by omega) (sumN_s ha (by rw [ev36, bool1 (hrn i (by omega)) c28])) ls (lv_sub hl [0, 3, 4, 1, 5] rfl)
  exact K13 _ 0 0 (Nat.lt_succ_self _) (Nat.zero_le _) (rfl) ls (lv_sub hl [0, 1, 2, 3, 4] rfl)
