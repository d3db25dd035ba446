set_option maxHeartbeats 4000000 in
set_option maxRecDepth 100000 in
theorem m_X6_setGlass (l : Launch) (g : GG) (L : List Nat) (f : Nat → va_E) (sz : Nat) (hN : L.Nodup) (mh mg mr mk mn ms nw ah n nv : Nat) (th : Int32) (gl : Nat → Int32) (x y : Int32) (hL_mh : mh ∈ L) (hf_mh : f mh = eO 7 [.int th, .ref mg, .ref mr, .int (nI n), .ref mk, .ref mn, .int (nI nv), .ref ms, .ref nw, .ref ah]) (hL_mg : mg ∈ L) (hf_mg : f mg = eI g 12 gl) : RW l g yX6_setGlass wsX6_setGlass 1 22 L f sz [.ref mh, .int x, .int y] (fun r f2 => ((inB x 12 = false ∧ f2 mh = eO 7 [.int 1, .ref mg, .ref mr, .int (nI n), .ref mk, .ref mn, .int (nI nv), .ref ms, .ref nw, .ref ah] ∧ f2 mg = eI g 12 gl) ∨ (inB x 12 = true ∧ inB y 61 = false ∧ f2 mh = eO 7 [.int 2, .ref mg, .ref mr, .int (nI n), .ref mk, .ref mn, .int (nI nv), .ref ms, .ref nw, .ref ah] ∧ f2 mg = eI g 12 gl) ∨ ∃ j, j < 12 ∧ x = nI j ∧ inB y 61 = true ∧ r = gl j ∧ f2 mh = eO 7 [.int 0, .ref mg, .ref mr, .int (nI n), .ref mk, .ref mn, .int (nI nv), .ref ms, .ref nw, .ref ah] ∧ f2 mg = eI g 12 (upd gl j y)) ∧ Fr f f2 [mh, mg]) := by
  refine RW.start (cc := cX6_setGlass) (maxL := 4) (ret := .int) (by decide +kernel) rfl (by simp [lg_sl, Value.category]) ?_
  intro p e s m args below meth c Q ls A hx hb hml hts hown hA hA2 hS hP hK hl hend
  have hl : lv_has ls 4 [(0, .ref mh), (1, .int x), (2, .int y)] := hl
  have hi_X6 : ∀ w ∈ u_ws RX6 TX6 10, w ∈ wsX6_setGlass := by decide +kernel
  have hFr : Fr f f [mh, mg] := Fr.rf
  have n_mh_mg : mh ≠ mg := ne_e hf_mh hf_mg (by simp)
  have h0f_mh := hf_mh
  have h0f_mg := hf_mg
  refine lv_aload_n hx hb dX6_setGlass_0 rfl (lv_at hl 0 rfl) ?_
  refine lv_iconst (v := 0) hx hb dX6_setGlass_1 (by decide) ?_
  refine pg_put (ty := .int) (C := RX6) (T := TX6) (N := 10) hx hb hts hi_X6 tyX6 tyX6_ok nmX6 hown hK hP hN hA hS hL_mh hf_mh rfl 0 (by decide) (hts (.fieldLink RX6 41 "BarometerLeagueModel" "thrown" "I") (by decide +kernel)) (fun _ h9 => h9) rfl (by decide +kernel) rfl rfl (Nat.le_of_ble_eq_true rfl) dX6_setGlass_2 (fun H locs hP hS => ?_)
  obtain ⟨f2, ef2⟩ : ∃ z, z = va_up f mh (eO 7 [.int 0, .ref mg, .ref mr, .int (nI n), .ref mk, .ref mn, .int (nI nv), .ref ms, .ref nw, .ref ah]) := ⟨_, rfl⟩
  replace hP : PP g L f2 H := by rw [ef2]; exact hP
  have hf_mg : f2 mg = eI g 12 gl := by rw [ef2, va_up_ne _ _ n_mh_mg.symm]; exact hf_mg
  have hf_mh : f2 mh = eO 7 [.int 0, .ref mg, .ref mr, .int (nI n), .ref mk, .ref mn, .int (nI nv), .ref ms, .ref nw, .ref ah] := by rw [ef2]; exact va_up_self _ _ _
  replace hFr : Fr f f2 [mh, mg] := by rw [ef2]; exact hFr.up (by simp)
  refine lv_iload_n hx hb dX6_setGlass_5 rfl (lv_at hl 1 rfl) ?_
  refine lv_iconst (v := 0) hx hb dX6_setGlass_6 (by decide) ?_
  refine lv_bipush (v := 11) hx hb dX6_setGlass_7 (by decide) ?_
  refine ro_S (As := [.int x, .int 0, .int 11]) (rest := []) ⟨hx, hb, hml, hown, hts⟩ (m_X6_isIn l g L f2 x _ _ ) (va_cwS 3 hts gX6_setGlass_X6_isIn rfl rfl rfl (by decide +kernel) ⟨Nat.le_of_ble_eq_true rfl, Nat.le_of_ble_eq_true rfl⟩) hK hP rfl hl.1 rfl (Nat.le_of_ble_eq_true rfl) dX6_setGlass_9 ⟨Nat.zero_le _, Nat.zero_le _⟩ (fun r9 hr9 => ?_)
  have hr9 : r9 = b2i (decide (0 ≤ x ∧ x ≤ 11)) := hr9
  subst hr9
  refine lv_if_ne (tgt := 21) hx hb dX6_setGlass_12 (by decide) (fun c12 => ?_) (fun c12 => ?_)
  · skip
    refine lv_iload_n hx hb dX6_setGlass_21 rfl (lv_at hl 2 rfl) ?_
    refine lv_iconst (v := 0) hx hb dX6_setGlass_22 (by decide) ?_
    refine lv_bipush (v := 60) hx hb dX6_setGlass_23 (by decide) ?_
    refine ro_S (As := [.int y, .int 0, .int 60]) (rest := []) ⟨hx, hb, hml, hown, hts⟩ (m_X6_isIn l g L f2 y _ _ ) (va_cwS 3 hts gX6_setGlass_X6_isIn rfl rfl rfl (by decide +kernel) ⟨Nat.le_of_ble_eq_true rfl, Nat.le_of_ble_eq_true rfl⟩) hK hP rfl hl.1 rfl (Nat.le_of_ble_eq_true rfl) dX6_setGlass_25 ⟨Nat.zero_le _, Nat.zero_le _⟩ (fun r25 hr25 => ?_)
    have hr25 : r25 = b2i (decide (0 ≤ y ∧ y ≤ 60)) := hr25
    subst hr25
    refine lv_if_ne (tgt := 37) hx hb dX6_setGlass_28 (by decide) (fun c28 => ?_) (fun c28 => ?_)
    · skip
      obtain ⟨j, hj, rfl⟩ := inB_of (in_t (k := 11) (by omega) c12) (by omega)
      refine lv_aload_n hx hb dX6_setGlass_37 rfl (lv_at hl 0 rfl) ?_
      refine pg_get (C := RX6) (T := TX6) (N := 10) hx hb hts hi_X6 hown hK hP hL_mh hf_mh rfl 1 (by decide) (hts (.fieldLink RX6 9 "BarometerLeagueModel" "glass" "[I") (by decide +kernel)) (fun _ h9 => h9) rfl dX6_setGlass_38 ?_
      refine lv_iload_n hx hb dX6_setGlass_41 rfl (lv_at hl 1 rfl) ?_
      refine pn_iald (j := j) hx hb hK hP hL_mg hf_mg rfl (by omega) (Nat.lt_of_lt_of_le (m := 100) (by omega) (by omega)) dX6_setGlass_42 ?_
      refine lv_istore_n (lv' := [(3, .int (gl j)), (0, .ref mh), (1, .int (nI j)), (2, .int y)]) hx hb dX6_setGlass_43 rfl hl (by decide) rfl (fun ls hl => ?_)
      refine lv_aload_n hx hb dX6_setGlass_44 rfl (lv_at hl 1 rfl) ?_
      refine pg_get (C := RX6) (T := TX6) (N := 10) hx hb hts hi_X6 hown hK hP hL_mh hf_mh rfl 1 (by decide) (hts (.fieldLink RX6 9 "BarometerLeagueModel" "glass" "[I") (by decide +kernel)) (fun _ h9 => h9) rfl dX6_setGlass_45 ?_
      refine lv_iload_n hx hb dX6_setGlass_48 rfl (lv_at hl 2 rfl) ?_
      refine lv_iload_n hx hb dX6_setGlass_49 rfl (lv_at hl 3 rfl) ?_
      refine pn_iast (j := j) hx hb hK hP hN hA hS hL_mg hf_mg rfl (by omega) (Nat.lt_of_lt_of_le (m := 100) (by omega) (by omega)) dX6_setGlass_50 (fun H locs hP hS => ?_)
      obtain ⟨f50, ef50⟩ : ∃ z, z = va_up f2 mg (eI g 12 (upd gl j y)) := ⟨_, rfl⟩
      replace hP : PP g L f50 H := by rw [ef50]; exact hP
      have hf_mh : f50 mh = eO 7 [.int 0, .ref mg, .ref mr, .int (nI n), .ref mk, .ref mn, .int (nI nv), .ref ms, .ref nw, .ref ah] := by rw [ef50, va_up_ne _ _ n_mh_mg]; exact hf_mh
      have hf_mg : f50 mg = eI g 12 (upd gl j y) := by rw [ef50]; exact va_up_self _ _ _
      replace hFr : Fr f f50 [mh, mg] := by rw [ef50]; exact hFr.up (by simp)
      refine lv_iload_n hx hb dX6_setGlass_51 rfl (lv_at hl 0 rfl) ?_
      exact hend (gl j) f50 _ _ _ _ (⟨Or.inr (Or.inr ⟨j, hj, rfl, in_t (k := 60) (by omega) c28, rfl, hf_mh, hf_mg⟩), hFr⟩) hP hS rfl dX6_setGlass_52
    · skip
      refine lv_aload_n hx hb dX6_setGlass_31 rfl (lv_at hl 0 rfl) ?_
      refine lv_iconst (v := 2) hx hb dX6_setGlass_32 (by decide) ?_
      refine rw_V (As := [.int 2]) (rest := []) ⟨hx, hb, hml, hown, hts⟩ (m_X6_no l g L f2 _ hN _ _ _ _ _ _ _ _ _ _ _ _ hL_mh hf_mh) (cwV 1 hts gX6_setGlass_X6_no rfl rfl rfl (by decide +kernel) ⟨Nat.le_of_ble_eq_true rfl, Nat.le_of_ble_eq_true rfl⟩) hK hP hA hA2 hS hL_mh hf_mh rfl rfl hl.1 rfl (Nat.le_of_ble_eq_true rfl) dX6_setGlass_33 ⟨Nat.zero_le _, Nat.zero_le _⟩ (fun r33 f33 H locs hr33 hP hS => ?_)
      obtain ⟨hv33, hc33_0, hw33⟩ := hr33
      have hf_mg : f33 mg = eI g 12 gl := hw33.get hf_mg (nm_c n_mh_mg.symm (List.not_mem_nil))
      have hf_mh : f33 mh = eO 7 [.int 2, .ref mg, .ref mr, .int (nI n), .ref mk, .ref mn, .int (nI nv), .ref ms, .ref nw, .ref ah] := hc33_0
      replace hFr : Fr f f33 [mh, mg] := hFr.tr hw33 (by simp)
      subst hv33
      exact hend (0) f33 _ _ _ _ (⟨Or.inr (Or.inl ⟨in_t (k := 11) (by omega) c12, in_f (k := 60) (by omega) c28, hf_mh, hf_mg⟩), hFr⟩) hP hS rfl dX6_setGlass_36
  · skip
    refine lv_aload_n hx hb dX6_setGlass_15 rfl (lv_at hl 0 rfl) ?_
    refine lv_iconst (v := 1) hx hb dX6_setGlass_16 (by decide) ?_
    refine rw_V (As := [.int 1]) (rest := []) ⟨hx, hb, hml, hown, hts⟩ (m_X6_no l g L f2 _ hN _ _ _ _ _ _ _ _ _ _ _ _ hL_mh hf_mh) (cwV 1 hts gX6_setGlass_X6_no rfl rfl rfl (by decide +kernel) ⟨Nat.le_of_ble_eq_true rfl, Nat.le_of_ble_eq_true rfl⟩) hK hP hA hA2 hS hL_mh hf_mh rfl rfl hl.1 rfl (Nat.le_of_ble_eq_true rfl) dX6_setGlass_17 ⟨Nat.zero_le _, Nat.zero_le _⟩ (fun r17 f17 H locs hr17 hP hS => ?_)
    obtain ⟨hv17, hc17_0, hw17⟩ := hr17
    have hf_mg : f17 mg = eI g 12 gl := hw17.get hf_mg (nm_c n_mh_mg.symm (List.not_mem_nil))
    have hf_mh : f17 mh = eO 7 [.int 1, .ref mg, .ref mr, .int (nI n), .ref mk, .ref mn, .int (nI nv), .ref ms, .ref nw, .ref ah] := hc17_0
    replace hFr : Fr f f17 [mh, mg] := hFr.tr hw17 (by simp)
    subst hv17
    exact hend (0) f17 _ _ _ _ (⟨Or.inl ⟨in_f (k := 11) (by omega) c12, hf_mh, hf_mg⟩, hFr⟩) hP hS rfl dX6_setGlass_20

set_option maxHeartbeats 4000000 in
set_option maxRecDepth 100000 in
theorem m_X6_setRain (l : Launch) (g : GG) (L : List Nat) (f : Nat → va_E) (sz : Nat) (hN : L.Nodup) (mh mg mr mk mn ms nw ah n nv : Nat) (th : Int32) (rn : Nat → Int32) (x : Int32) (bb : Bool) (hL_mh : mh ∈ L) (hf_mh : f mh = eO 7 [.int th, .ref mg, .ref mr, .int (nI n), .ref mk, .ref mn, .int (nI nv), .ref ms, .ref nw, .ref ah]) (hL_mr : mr ∈ L) (hf_mr : f mr = eI g 12 rn) : RW l g yX6_setRain wsX6_setRain 1 22 L f sz [.ref mh, .int x, .int (b2i bb)] (fun r f2 => ((inB x 12 = false ∧ r = 0 ∧ f2 mh = eO 7 [.int 1, .ref mg, .ref mr, .int (nI n), .ref mk, .ref mn, .int (nI nv), .ref ms, .ref nw, .ref ah] ∧ f2 mr = eI g 12 rn) ∨ ∃ j, j < 12 ∧ x = nI j ∧ r = b2i (decide (rn j = 1)) ∧ f2 mh = eO 7 [.int 0, .ref mg, .ref mr, .int (nI n), .ref mk, .ref mn, .int (nI nv), .ref ms, .ref nw, .ref ah] ∧ f2 mr = eI g 12 (upd rn j (b2i bb))) ∧ Fr f f2 [mh, mr]) := by
  refine RW.start (cc := cX6_setRain) (maxL := 4) (ret := .boolean) (by decide +kernel) rfl (by simp [lg_sl, Value.category]) ?_
  intro p e s m args below meth c Q ls A hx hb hml hts hown hA hA2 hS hP hK hl hend
  have hl : lv_has ls 4 [(0, .ref mh), (1, .int x), (2, .int (b2i bb))] := hl
  have hi_X6 : ∀ w ∈ u_ws RX6 TX6 10, w ∈ wsX6_setRain := by decide +kernel
  have hFr : Fr f f [mh, mr] := Fr.rf
  have n_mh_mr : mh ≠ mr := ne_e hf_mh hf_mr (by simp)
  have h0f_mh := hf_mh
  have h0f_mr := hf_mr
  refine lv_aload_n hx hb dX6_setRain_0 rfl (lv_at hl 0 rfl) ?_
  refine lv_iload_n hx hb dX6_setRain_1 rfl (lv_at hl 1 rfl) ?_
  refine lv_iconst (v := 0) hx hb dX6_setRain_2 (by decide) ?_
  refine lv_bipush (v := 11) hx hb dX6_setRain_3 (by decide) ?_
  refine ro_S (As := [.int x, .int 0, .int 11]) (rest := [.ref mh]) ⟨hx, hb, hml, hown, hts⟩ (m_X6_isIn l g L f x _ _ ) (va_cwS 3 hts gX6_setRain_X6_isIn rfl rfl rfl (by decide +kernel) ⟨Nat.le_of_ble_eq_true rfl, Nat.le_of_ble_eq_true rfl⟩) hK hP rfl hl.1 rfl (Nat.le_of_ble_eq_true rfl) dX6_setRain_5 ⟨Nat.zero_le _, Nat.zero_le _⟩ (fun r5 hr5 => ?_)
  have hr5 : r5 = b2i (decide (0 ≤ x ∧ x ≤ 11)) := hr5
  subst hr5
  refine lv_if_eq (tgt := 15) hx hb dX6_setRain_8 (by decide) (fun c8 => ?_) (fun c8 => ?_)
  · skip
    refine lv_iconst (v := 1) hx hb dX6_setRain_15 (by decide) ?_
    refine pg_put (ty := .int) (C := RX6) (T := TX6) (N := 10) hx hb hts hi_X6 tyX6 tyX6_ok nmX6 hown hK hP hN hA hS hL_mh hf_mh rfl 0 (by decide) (hts (.fieldLink RX6 41 "BarometerLeagueModel" "thrown" "I") (by decide +kernel)) (fun _ h9 => h9) rfl (by decide +kernel) rfl rfl (Nat.le_of_ble_eq_true rfl) dX6_setRain_16 (fun H locs hP hS => ?_)
    obtain ⟨f16, ef16⟩ : ∃ z, z = va_up f mh (eO 7 [.int 1, .ref mg, .ref mr, .int (nI n), .ref mk, .ref mn, .int (nI nv), .ref ms, .ref nw, .ref ah]) := ⟨_, rfl⟩
    replace hP : PP g L f16 H := by rw [ef16]; exact hP
    have hf_mr : f16 mr = eI g 12 rn := by rw [ef16, va_up_ne _ _ n_mh_mr.symm]; exact hf_mr
    have hf_mh : f16 mh = eO 7 [.int 1, .ref mg, .ref mr, .int (nI n), .ref mk, .ref mn, .int (nI nv), .ref ms, .ref nw, .ref ah] := by rw [ef16]; exact va_up_self _ _ _
    replace hFr : Fr f f16 [mh, mr] := by rw [ef16]; exact hFr.up (by simp)
    refine lv_aload_n hx hb dX6_setRain_19 rfl (lv_at hl 0 rfl) ?_
    refine pg_get (C := RX6) (T := TX6) (N := 10) hx hb hts hi_X6 hown hK hP hL_mh hf_mh rfl 0 (by decide) (hts (.fieldLink RX6 41 "BarometerLeagueModel" "thrown" "I") (by decide +kernel)) (fun _ h9 => h9) rfl dX6_setRain_20 ?_
    refine lv_if_eq (tgt := 28) hx hb dX6_setRain_23 (by decide) (fun h => absurd h (by decide)) (fun _ => ?_)
    refine lv_iconst (v := 0) hx hb dX6_setRain_26 (by decide) ?_
    exact hend (0) f16 _ _ _ _ (⟨Or.inl ⟨in_f (k := 11) (by omega) c8, rfl, hf_mh, hf_mr⟩, hFr⟩) hP hS rfl dX6_setRain_27
  · skip
    refine lv_iconst (v := 0) hx hb dX6_setRain_11 (by decide) ?_
    refine lv_goto (tgt := 16) hx hb dX6_setRain_12 (by decide) ?_
    refine pg_put (ty := .int) (C := RX6) (T := TX6) (N := 10) hx hb hts hi_X6 tyX6 tyX6_ok nmX6 hown hK hP hN hA hS hL_mh hf_mh rfl 0 (by decide) (hts (.fieldLink RX6 41 "BarometerLeagueModel" "thrown" "I") (by decide +kernel)) (fun _ h9 => h9) rfl (by decide +kernel) rfl rfl (Nat.le_of_ble_eq_true rfl) dX6_setRain_16 (fun H locs hP hS => ?_)
    obtain ⟨f16, ef16⟩ : ∃ z, z = va_up f mh (eO 7 [.int 0, .ref mg, .ref mr, .int (nI n), .ref mk, .ref mn, .int (nI nv), .ref ms, .ref nw, .ref ah]) := ⟨_, rfl⟩
    replace hP : PP g L f16 H := by rw [ef16]; exact hP
    have hf_mr : f16 mr = eI g 12 rn := by rw [ef16, va_up_ne _ _ n_mh_mr.symm]; exact hf_mr
    have hf_mh : f16 mh = eO 7 [.int 0, .ref mg, .ref mr, .int (nI n), .ref mk, .ref mn, .int (nI nv), .ref ms, .ref nw, .ref ah] := by rw [ef16]; exact va_up_self _ _ _
    replace hFr : Fr f f16 [mh, mr] := by rw [ef16]; exact hFr.up (by simp)
    refine lv_aload_n hx hb dX6_setRain_19 rfl (lv_at hl 0 rfl) ?_
    refine pg_get (C := RX6) (T := TX6) (N := 10) hx hb hts hi_X6 hown hK hP hL_mh hf_mh rfl 0 (by decide) (hts (.fieldLink RX6 41 "BarometerLeagueModel" "thrown" "I") (by decide +kernel)) (fun _ h9 => h9) rfl dX6_setRain_20 ?_
    refine lv_if_eq (tgt := 28) hx hb dX6_setRain_23 (by decide) (fun _ => ?_) (fun h => absurd (by decide) h)
    obtain ⟨j, hj, rfl⟩ := inB_of (in_t (k := 11) (by omega) c8) (by omega)
    refine lv_aload_n hx hb dX6_setRain_28 rfl (lv_at hl 0 rfl) ?_
    refine pg_get (C := RX6) (T := TX6) (N := 10) hx hb hts hi_X6 hown hK hP hL_mh hf_mh rfl 2 (by decide) (hts (.fieldLink RX6 13 "BarometerLeagueModel" "rains" "[I") (by decide +kernel)) (fun _ h9 => h9) rfl dX6_setRain_29 ?_
    refine lv_iload_n hx hb dX6_setRain_32 rfl (lv_at hl 1 rfl) ?_
    refine pn_iald (j := j) hx hb hK hP hL_mr hf_mr rfl (by omega) (Nat.lt_of_lt_of_le (m := 100) (by omega) (by omega)) dX6_setRain_33 ?_
    refine lv_iconst (v := 1) hx hb dX6_setRain_34 (by decide) ?_
    refine lv_icmp_ne (tgt := 42) hx hb dX6_setRain_35 (by decide) (fun c35 => ?_) (fun c35 => ?_)
    · skip
      refine lv_iconst (v := 0) hx hb dX6_setRain_42 (by decide) ?_
      refine lv_istore_n (lv' := [(3, .int 0), (0, .ref mh), (1, .int (nI j)), (2, .int (b2i bb))]) hx hb dX6_setRain_43 rfl hl (by decide) rfl (fun ls hl => ?_)
      refine lv_aload_n hx hb dX6_setRain_44 rfl (lv_at hl 1 rfl) ?_
      refine pg_get (C := RX6) (T := TX6) (N := 10) hx hb hts hi_X6 hown hK hP hL_mh hf_mh rfl 2 (by decide) (hts (.fieldLink RX6 13 "BarometerLeagueModel" "rains" "[I") (by decide +kernel)) (fun _ h9 => h9) rfl dX6_setRain_45 ?_
      refine lv_iload_n hx hb dX6_setRain_48 rfl (lv_at hl 2 rfl) ?_
      refine lv_iload_n hx hb dX6_setRain_49 rfl (lv_at hl 3 rfl) ?_
      refine lv_if_eq (tgt := 57) hx hb dX6_setRain_50 (by decide) (fun c50 => ?_) (fun c50 => ?_)
      · skip
        refine lv_iconst (v := 0) hx hb dX6_setRain_57 (by decide) ?_
        refine pn_iast (j := j) hx hb hK hP hN hA hS hL_mr hf_mr rfl (by omega) (Nat.lt_of_lt_of_le (m := 100) (by omega) (by omega)) dX6_setRain_58 (fun H locs hP hS => ?_)
        obtain ⟨f58, ef58⟩ : ∃ z, z = va_up f16 mr (eI g 12 (upd rn j 0)) := ⟨_, rfl⟩
        replace hP : PP g L f58 H := by rw [ef58]; exact hP
        have hf_mh : f58 mh = eO 7 [.int 0, .ref mg, .ref mr, .int (nI n), .ref mk, .ref mn, .int (nI nv), .ref ms, .ref nw, .ref ah] := by rw [ef58, va_up_ne _ _ n_mh_mr]; exact hf_mh
        have hf_mr : f58 mr = eI g 12 (upd rn j 0) := by rw [ef58]; exact va_up_self _ _ _
        replace hFr : Fr f f58 [mh, mr] := by rw [ef58]; exact hFr.up (by simp)
        refine lv_iload_n hx hb dX6_setRain_59 rfl (lv_at hl 0 rfl) ?_
        exact hend (0) f58 _ _ _ _ (⟨Or.inr ⟨j, hj, rfl, bf rfl c35, hf_mh, by rw [hf_mr, c50]⟩, hFr⟩) hP hS rfl dX6_setRain_60
      · skip
        refine lv_iconst (v := 1) hx hb dX6_setRain_53 (by decide) ?_
        refine lv_goto (tgt := 58) hx hb dX6_setRain_54 (by decide) ?_
        refine pn_iast (j := j) hx hb hK hP hN hA hS hL_mr hf_mr rfl (by omega) (Nat.lt_of_lt_of_le (m := 100) (by omega) (by omega)) dX6_setRain_58 (fun H locs hP hS => ?_)
        obtain ⟨f58, ef58⟩ : ∃ z, z = va_up f16 mr (eI g 12 (upd rn j 1)) := ⟨_, rfl⟩
        replace hP : PP g L f58 H := by rw [ef58]; exact hP
        have hf_mh : f58 mh = eO 7 [.int 0, .ref mg, .ref mr, .int (nI n), .ref mk, .ref mn, .int (nI nv), .ref ms, .ref nw, .ref ah] := by rw [ef58, va_up_ne _ _ n_mh_mr]; exact hf_mh
        have hf_mr : f58 mr = eI g 12 (upd rn j 1) := by rw [ef58]; exact va_up_self _ _ _
        replace hFr : Fr f f58 [mh, mr] := by rw [ef58]; exact hFr.up (by simp)
        refine lv_iload_n hx hb dX6_setRain_59 rfl (lv_at hl 0 rfl) ?_
        exact hend (0) f58 _ _ _ _ (⟨Or.inr ⟨j, hj, rfl, bf rfl c35, hf_mh, by rw [hf_mr, bool1 ⟨_, rfl⟩ c50]⟩, hFr⟩) hP hS rfl dX6_setRain_60
    · skip
      refine lv_iconst (v := 1) hx hb dX6_setRain_38 (by decide) ?_
      refine lv_goto (tgt := 43) hx hb dX6_setRain_39 (by decide) ?_
      refine lv_istore_n (lv' := [(3, .int 1), (0, .ref mh), (1, .int (nI j)), (2, .int (b2i bb))]) hx hb dX6_setRain_43 rfl hl (by decide) rfl (fun ls hl => ?_)
      refine lv_aload_n hx hb dX6_setRain_44 rfl (lv_at hl 1 rfl) ?_
      refine pg_get (C := RX6) (T := TX6) (N := 10) hx hb hts hi_X6 hown hK hP hL_mh hf_mh rfl 2 (by decide) (hts (.fieldLink RX6 13 "BarometerLeagueModel" "rains" "[I") (by decide +kernel)) (fun _ h9 => h9) rfl dX6_setRain_45 ?_
      refine lv_iload_n hx hb dX6_setRain_48 rfl (lv_at hl 2 rfl) ?_
      refine lv_iload_n hx hb dX6_setRain_49 rfl (lv_at hl 3 rfl) ?_
      refine lv_if_eq (tgt := 57) hx hb dX6_setRain_50 (by decide) (fun c50 => ?_) (fun c50 => ?_)
      · skip
        refine lv_iconst (v := 0) hx hb dX6_setRain_57 (by decide) ?_
        refine pn_iast (j := j) hx hb hK hP hN hA hS hL_mr hf_mr rfl (by omega) (Nat.lt_of_lt_of_le (m := 100) (by omega) (by omega)) dX6_setRain_58 (fun H locs hP hS => ?_)
        obtain ⟨f58, ef58⟩ : ∃ z, z = va_up f16 mr (eI g 12 (upd rn j 0)) := ⟨_, rfl⟩
        replace hP : PP g L f58 H := by rw [ef58]; exact hP
        have hf_mh : f58 mh = eO 7 [.int 0, .ref mg, .ref mr, .int (nI n), .ref mk, .ref mn, .int (nI nv), .ref ms, .ref nw, .ref ah] := by rw [ef58, va_up_ne _ _ n_mh_mr]; exact hf_mh
        have hf_mr : f58 mr = eI g 12 (upd rn j 0) := by rw [ef58]; exact va_up_self _ _ _
        replace hFr : Fr f f58 [mh, mr] := by rw [ef58]; exact hFr.up (by simp)
        refine lv_iload_n hx hb dX6_setRain_59 rfl (lv_at hl 0 rfl) ?_
        exact hend (1) f58 _ _ _ _ (⟨Or.inr ⟨j, hj, rfl, bt rfl c35, hf_mh, by rw [hf_mr, c50]⟩, hFr⟩) hP hS rfl dX6_setRain_60
      · skip
        refine lv_iconst (v := 1) hx hb dX6_setRain_53 (by decide) ?_
        refine lv_goto (tgt := 58) hx hb dX6_setRain_54 (by decide) ?_
        refine pn_iast (j := j) hx hb hK hP hN hA hS hL_mr hf_mr rfl (by omega) (Nat.lt_of_lt_of_le (m := 100) (by omega) (by omega)) dX6_setRain_58 (fun H locs hP hS => ?_)
        obtain ⟨f58, ef58⟩ : ∃ z, z = va_up f16 mr (eI g 12 (upd rn j 1)) := ⟨_, rfl⟩
        replace hP : PP g L f58 H := by rw [ef58]; exact hP
        have hf_mh : f58 mh = eO 7 [.int 0, .ref mg, .ref mr, .int (nI n), .ref mk, .ref mn, .int (nI nv), .ref ms, .ref nw, .ref ah] := by rw [ef58, va_up_ne _ _ n_mh_mr]; exact hf_mh
        have hf_mr : f58 mr = eI g 12 (upd rn j 1) := by rw [ef58]; exact va_up_self _ _ _
        replace hFr : Fr f f58 [mh, mr] := by rw [ef58]; exact hFr.up (by simp)
        refine lv_iload_n hx hb dX6_setRain_59 rfl (lv_at hl 0 rfl) ?_
        exact hend (1) f58 _ _ _ _ (⟨Or.inr ⟨j, hj, rfl, bt rfl c35, hf_mh, by rw [hf_mr, bool1 ⟨_, rfl⟩ c50]⟩, hFr⟩) hP hS rfl dX6_setRain_60

set_option maxHeartbeats 4000000 in
set_option maxRecDepth 100000 in
theorem m_X6_sign (l : Launch) (g : GG) (L : List Nat) (f : Nat → va_E) (sz : Nat) (hN : L.Nodup) (mh mg mr mk mn ms nw ah n nv : Nat) (th : Int32) (kd nu : Nat → Int32) (x y : Int32) (hL_mh : mh ∈ L) (hf_mh : f mh = eO 7 [.int th, .ref mg, .ref mr, .int (nI n), .ref mk, .ref mn, .int (nI nv), .ref ms, .ref nw, .ref ah]) (hL_mk : mk ∈ L) (hf_mk : f mk = eI g 8 kd) (hL_mn : mn ∈ L) (hf_mn : f mn = eI g 8 nu) (n_mk_mn : mk ≠ mn) (hn : n ≤ 8) : RW l g yX6_sign wsX6_sign 1 22 L f sz [.ref mh, .int x, .int y] (fun r f2 => (((inB x 6 && inB y 61) = false ∧ f2 mh = eO 7 [.int 1, .ref mg, .ref mr, .int (nI n), .ref mk, .ref mn, .int (nI nv), .ref ms, .ref nw, .ref ah] ∧ f2 mk = eI g 8 kd ∧ f2 mn = eI g 8 nu) ∨ ((inB x 6 && inB y 61) = true ∧ n = 8 ∧ f2 mh = eO 7 [.int 2, .ref mg, .ref mr, .int (nI n), .ref mk, .ref mn, .int (nI nv), .ref ms, .ref nw, .ref ah] ∧ f2 mk = eI g 8 kd ∧ f2 mn = eI g 8 nu) ∨ ((inB x 6 && inB y 61) = true ∧ n < 8 ∧ r = nI n ∧ f2 mh = eO 7 [.int 0, .ref mg, .ref mr, .int (nI (n + 1)), .ref mk, .ref mn, .int (nI nv), .ref ms, .ref nw, .ref ah] ∧ f2 mk = eI g 8 (upd kd n x) ∧ f2 mn = eI g 8 (upd nu n y))) ∧ Fr f f2 [mh, mk, mn]) := by
  refine RW.start (cc := cX6_sign) (maxL := 3) (ret := .int) (by decide +kernel) rfl (by simp [lg_sl, Value.category]) ?_
  intro p e s m args below meth c Q ls A hx hb hml hts hown hA hA2 hS hP hK hl hend
  have hl : lv_has ls 3 [(0, .ref mh), (1, .int x), (2, .int y)] := hl
  have hi_X6 : ∀ w ∈ u_ws RX6 TX6 10, w ∈ wsX6_sign := by decide +kernel
  have hFr : Fr f f [mh, mk, mn] := Fr.rf
  have n_mh_mk : mh ≠ mk := ne_e hf_mh hf_mk (by simp)
  have n_mh_mn : mh ≠ mn := ne_e hf_mh hf_mn (by simp)
  have h0f_mh := hf_mh
  have h0f_mk := hf_mk
  have h0f_mn := hf_mn
  refine lv_aload_n hx hb dX6_sign_0 rfl (lv_at hl 0 rfl) ?_
  refine lv_iconst (v := 0) hx hb dX6_sign_1 (by decide) ?_
  refine pg_put (ty := .int) (C := RX6) (T := TX6) (N := 10) hx hb hts hi_X6 tyX6 tyX6_ok nmX6 hown hK hP hN hA hS hL_mh hf_mh rfl 0 (by decide) (hts (.fieldLink RX6 41 "BarometerLeagueModel" "thrown" "I") (by decide +kernel)) (fun _ h9 => h9) rfl (by decide +kernel) rfl rfl (Nat.le_of_ble_eq_true rfl) dX6_sign_2 (fun H locs hP hS => ?_)
  obtain ⟨f2, ef2⟩ : ∃ z, z = va_up f mh (eO 7 [.int 0, .ref mg, .ref mr, .int (nI n), .ref mk, .ref mn, .int (nI nv), .ref ms, .ref nw, .ref ah]) := ⟨_, rfl⟩
  replace hP : PP g L f2 H := by rw [ef2]; exact hP
  have hf_mk : f2 mk = eI g 8 kd := by rw [ef2, va_up_ne _ _ n_mh_mk.symm]; exact hf_mk
  have hf_mn : f2 mn = eI g 8 nu := by rw [ef2, va_up_ne _ _ n_mh_mn.symm]; exact hf_mn
  have hf_mh : f2 mh = eO 7 [.int 0, .ref mg, .ref mr, .int (nI n), .ref mk, .ref mn, .int (nI nv), .ref ms, .ref nw, .ref ah] := by rw [ef2]; exact va_up_self _ _ _
  replace hFr : Fr f f2 [mh, mk, mn] := by rw [ef2]; exact hFr.up (by simp)
  refine lv_iload_n hx hb dX6_sign_5 rfl (lv_at hl 1 rfl) ?_
  refine lv_iconst (v := 0) hx hb dX6_sign_6 (by decide) ?_
  refine lv_iconst (v := 5) hx hb dX6_sign_7 (by decide) ?_
  refine ro_S (As := [.int x, .int 0, .int 5]) (rest := []) ⟨hx, hb, hml, hown, hts⟩ (m_X6_isIn l g L f2 x _ _ ) (va_cwS 3 hts gX6_sign_X6_isIn rfl rfl rfl (by decide +kernel) ⟨Nat.le_of_ble_eq_true rfl, Nat.le_of_ble_eq_true rfl⟩) hK hP rfl hl.1 rfl (Nat.le_of_ble_eq_true rfl) dX6_sign_8 ⟨Nat.zero_le _, Nat.zero_le _⟩ (fun r8 hr8 => ?_)
  have hr8 : r8 = b2i (decide (0 ≤ x ∧ x ≤ 5)) := hr8
  subst hr8
  refine lv_if_eq (tgt := 24) hx hb dX6_sign_11 (by decide) (fun c11 => ?_) (fun c11 => ?_)
  · skip
    refine lv_aload_n hx hb dX6_sign_24 rfl (lv_at hl 0 rfl) ?_
    refine lv_iconst (v := 1) hx hb dX6_sign_25 (by decide) ?_
    refine rw_V (As := [.int 1]) (rest := []) ⟨hx, hb, hml, hown, hts⟩ (m_X6_no l g L f2 _ hN _ _ _ _ _ _ _ _ _ _ _ _ hL_mh hf_mh) (cwV 1 hts gX6_sign_X6_no rfl rfl rfl (by decide +kernel) ⟨Nat.le_of_ble_eq_true rfl, Nat.le_of_ble_eq_true rfl⟩) hK hP hA hA2 hS hL_mh hf_mh rfl rfl hl.1 rfl (Nat.le_of_ble_eq_true rfl) dX6_sign_26 ⟨Nat.zero_le _, Nat.zero_le _⟩ (fun r26 f26 H locs hr26 hP hS => ?_)
    obtain ⟨hv26, hc26_0, hw26⟩ := hr26
    have hf_mk : f26 mk = eI g 8 kd := hw26.get hf_mk (nm_c n_mh_mk.symm (List.not_mem_nil))
    have hf_mn : f26 mn = eI g 8 nu := hw26.get hf_mn (nm_c n_mh_mn.symm (List.not_mem_nil))
    have hf_mh : f26 mh = eO 7 [.int 1, .ref mg, .ref mr, .int (nI n), .ref mk, .ref mn, .int (nI nv), .ref ms, .ref nw, .ref ah] := hc26_0
    replace hFr : Fr f f26 [mh, mk, mn] := hFr.tr hw26 (by simp)
    subst hv26
    exact hend (0) f26 _ _ _ _ (⟨Or.inl ⟨by rw [in_f (k := 5) (by omega) c11]; rfl, hf_mh, hf_mk, hf_mn⟩, hFr⟩) hP hS rfl dX6_sign_29
  · skip
    refine lv_iload_n hx hb dX6_sign_14 rfl (lv_at hl 2 rfl) ?_
    refine lv_iconst (v := 0) hx hb dX6_sign_15 (by decide) ?_
    refine lv_bipush (v := 60) hx hb dX6_sign_16 (by decide) ?_
    refine ro_S (As := [.int y, .int 0, .int 60]) (rest := []) ⟨hx, hb, hml, hown, hts⟩ (m_X6_isIn l g L f2 y _ _ ) (va_cwS 3 hts gX6_sign_X6_isIn rfl rfl rfl (by decide +kernel) ⟨Nat.le_of_ble_eq_true rfl, Nat.le_of_ble_eq_true rfl⟩) hK hP rfl hl.1 rfl (Nat.le_of_ble_eq_true rfl) dX6_sign_18 ⟨Nat.zero_le _, Nat.zero_le _⟩ (fun r18 hr18 => ?_)
    have hr18 : r18 = b2i (decide (0 ≤ y ∧ y ≤ 60)) := hr18
    subst hr18
    refine lv_if_ne (tgt := 30) hx hb dX6_sign_21 (by decide) (fun c21 => ?_) (fun c21 => ?_)
    · skip
      refine lv_aload_n hx hb dX6_sign_30 rfl (lv_at hl 0 rfl) ?_
      refine pg_get (C := RX6) (T := TX6) (N := 10) hx hb hts hi_X6 hown hK hP hL_mh hf_mh rfl 3 (by decide) (hts (.fieldLink RX6 45 "BarometerLeagueModel" "signs" "I") (by decide +kernel)) (fun _ h9 => h9) rfl dX6_sign_31 ?_
      refine lv_bipush (v := 8) hx hb dX6_sign_34 (by decide) ?_
      refine lv_icmp_ne (tgt := 45) hx hb dX6_sign_36 (by decide) (fun c36 => ?_) (fun c36 => ?_)
      · skip
        have c36 : ¬ n = 8 := fun h => c36 ((nI_eq (a := n) (b := 8) (by omega) (by omega)).mpr h)
        have hn8 : n < 8 := by omega
        refine lv_aload_n hx hb dX6_sign_45 rfl (lv_at hl 0 rfl) ?_
        refine pg_get (C := RX6) (T := TX6) (N := 10) hx hb hts hi_X6 hown hK hP hL_mh hf_mh rfl 4 (by decide) (hts (.fieldLink RX6 16 "BarometerLeagueModel" "kind" "[I") (by decide +kernel)) (fun _ h9 => h9) rfl dX6_sign_46 ?_
        refine lv_aload_n hx hb dX6_sign_49 rfl (lv_at hl 0 rfl) ?_
        refine pg_get (C := RX6) (T := TX6) (N := 10) hx hb hts hi_X6 hown hK hP hL_mh hf_mh rfl 3 (by decide) (hts (.fieldLink RX6 45 "BarometerLeagueModel" "signs" "I") (by decide +kernel)) (fun _ h9 => h9) rfl dX6_sign_50 ?_
        refine lv_iload_n hx hb dX6_sign_53 rfl (lv_at hl 1 rfl) ?_
        refine pn_iast (j := n) hx hb hK hP hN hA hS hL_mk hf_mk rfl (by omega) (Nat.lt_of_lt_of_le (m := 100) (by omega) (by omega)) dX6_sign_54 (fun H locs hP hS => ?_)
        obtain ⟨f54, ef54⟩ : ∃ z, z = va_up f2 mk (eI g 8 (upd kd n x)) := ⟨_, rfl⟩
        replace hP : PP g L f54 H := by rw [ef54]; exact hP
        have hf_mh : f54 mh = eO 7 [.int 0, .ref mg, .ref mr, .int (nI n), .ref mk, .ref mn, .int (nI nv), .ref ms, .ref nw, .ref ah] := by rw [ef54, va_up_ne _ _ n_mh_mk]; exact hf_mh
        have hf_mn : f54 mn = eI g 8 nu := by rw [ef54, va_up_ne _ _ n_mk_mn.symm]; exact hf_mn
        have hf_mk : f54 mk = eI g 8 (upd kd n x) := by rw [ef54]; exact va_up_self _ _ _
        replace hFr : Fr f f54 [mh, mk, mn] := by rw [ef54]; exact hFr.up (by simp)
        refine lv_aload_n hx hb dX6_sign_55 rfl (lv_at hl 0 rfl) ?_
        refine pg_get (C := RX6) (T := TX6) (N := 10) hx hb hts hi_X6 hown hK hP hL_mh hf_mh rfl 5 (by decide) (hts (.fieldLink RX6 19 "BarometerLeagueModel" "number" "[I") (by decide +kernel)) (fun _ h9 => h9) rfl dX6_sign_56 ?_
        refine lv_aload_n hx hb dX6_sign_59 rfl (lv_at hl 0 rfl) ?_
        refine pg_get (C := RX6) (T := TX6) (N := 10) hx hb hts hi_X6 hown hK hP hL_mh hf_mh rfl 3 (by decide) (hts (.fieldLink RX6 45 "BarometerLeagueModel" "signs" "I") (by decide +kernel)) (fun _ h9 => h9) rfl dX6_sign_60 ?_
        refine lv_iload_n hx hb dX6_sign_63 rfl (lv_at hl 2 rfl) ?_
        refine pn_iast (j := n) hx hb hK hP hN hA hS hL_mn hf_mn rfl (by omega) (Nat.lt_of_lt_of_le (m := 100) (by omega) (by omega)) dX6_sign_64 (fun H locs hP hS => ?_)
        obtain ⟨f64, ef64⟩ : ∃ z, z = va_up f54 mn (eI g 8 (upd nu n y)) := ⟨_, rfl⟩
        replace hP : PP g L f64 H := by rw [ef64]; exact hP
        have hf_mh : f64 mh = eO 7 [.int 0, .ref mg, .ref mr, .int (nI n), .ref mk, .ref mn, .int (nI nv), .ref ms, .ref nw, .ref ah] := by rw [ef64, va_up_ne _ _ n_mh_mn]; exact hf_mh
        have hf_mk : f64 mk = eI g 8 (upd kd n x) := by rw [ef64, va_up_ne _ _ n_mk_mn]; exact hf_mk
        have hf_mn : f64 mn = eI g 8 (upd nu n y) := by rw [ef64]; exact va_up_self _ _ _
        replace hFr : Fr f f64 [mh, mk, mn] := by rw [ef64]; exact hFr.up (by simp)
        refine lv_aload_n hx hb dX6_sign_65 rfl (lv_at hl 0 rfl) ?_
        refine lv_dup hx hb dX6_sign_66 rfl ?_
        refine pg_get (C := RX6) (T := TX6) (N := 10) hx hb hts hi_X6 hown hK hP hL_mh hf_mh rfl 3 (by decide) (hts (.fieldLink RX6 45 "BarometerLeagueModel" "signs" "I") (by decide +kernel)) (fun _ h9 => h9) rfl dX6_sign_67 ?_
        refine lv_iconst (v := 1) hx hb dX6_sign_70 (by decide) ?_
        refine lv_iadd hx hb dX6_sign_71 ?_
        refine lv_topi (fun v71 ev71 => ?_)
        refine pg_put (ty := .int) (C := RX6) (T := TX6) (N := 10) hx hb hts hi_X6 tyX6 tyX6_ok nmX6 hown hK hP hN hA hS hL_mh hf_mh rfl 3 (by decide) (hts (.fieldLink RX6 45 "BarometerLeagueModel" "signs" "I") (by decide +kernel)) (fun _ h9 => h9) rfl (by decide +kernel) rfl rfl (Nat.le_of_ble_eq_true rfl) dX6_sign_72 (fun H locs hP hS => ?_)
        obtain ⟨f72, ef72⟩ : ∃ z, z = va_up f64 mh (eO 7 [.int 0, .ref mg, .ref mr, .int v71, .ref mk, .ref mn, .int (nI nv), .ref ms, .ref nw, .ref ah]) := ⟨_, rfl⟩
        replace hP : PP g L f72 H := by rw [ef72]; exact hP
        have hf_mk : f72 mk = eI g 8 (upd kd n x) := by rw [ef72, va_up_ne _ _ n_mh_mk.symm]; exact hf_mk
        have hf_mn : f72 mn = eI g 8 (upd nu n y) := by rw [ef72, va_up_ne _ _ n_mh_mn.symm]; exact hf_mn
        have hf_mh : f72 mh = eO 7 [.int 0, .ref mg, .ref mr, .int v71, .ref mk, .ref mn, .int (nI nv), .ref ms, .ref nw, .ref ah] := by rw [ef72]; exact va_up_self _ _ _
        replace hFr : Fr f f72 [mh, mk, mn] := by rw [ef72]; exact hFr.up (by simp)
        refine lv_aload_n hx hb dX6_sign_75 rfl (lv_at hl 0 rfl) ?_
        refine pg_get (C := RX6) (T := TX6) (N := 10) hx hb hts hi_X6 hown hK hP hL_mh hf_mh rfl 3 (by decide) (hts (.fieldLink RX6 45 "BarometerLeagueModel" "signs" "I") (by decide +kernel)) (fun _ h9 => h9) rfl dX6_sign_76 ?_
        refine lv_iconst (v := 1) hx hb dX6_sign_79 (by decide) ?_
        refine lv_isub hx hb dX6_sign_80 ?_
        refine lv_topi (fun v80 ev80 => ?_)
        exact hend (v80) f72 _ _ _ _ (⟨Or.inr (Or.inr ⟨by rw [in_t (k := 5) (by omega) c11, in_t (k := 60) (by omega) c21]; rfl, hn8, pred1 ev71 ev80, by rw [hf_mh, ev71, nI_1], hf_mk, hf_mn⟩), hFr⟩) hP hS rfl dX6_sign_81
      · skip
        have c36 : n = 8 := (nI_eq (a := n) (b := 8) (by omega) (by omega)).mp (show nI n = nI 8 from c36)
        refine lv_aload_n hx hb dX6_sign_39 rfl (lv_at hl 0 rfl) ?_
        refine lv_iconst (v := 2) hx hb dX6_sign_40 (by decide) ?_
        refine rw_V (As := [.int 2]) (rest := []) ⟨hx, hb, hml, hown, hts⟩ (m_X6_no l g L f2 _ hN _ _ _ _ _ _ _ _ _ _ _ _ hL_mh hf_mh) (cwV 1 hts gX6_sign_X6_no rfl rfl rfl (by decide +kernel) ⟨Nat.le_of_ble_eq_true rfl, Nat.le_of_ble_eq_true rfl⟩) hK hP hA hA2 hS hL_mh hf_mh rfl rfl hl.1 rfl (Nat.le_of_ble_eq_true rfl) dX6_sign_41 ⟨Nat.zero_le _, Nat.zero_le _⟩ (fun r41 f41 H locs hr41 hP hS => ?_)
        obtain ⟨hv41, hc41_0, hw41⟩ := hr41
        have hf_mk : f41 mk = eI g 8 kd := hw41.get hf_mk (nm_c n_mh_mk.symm (List.not_mem_nil))
        have hf_mn : f41 mn = eI g 8 nu := hw41.get hf_mn (nm_c n_mh_mn.symm (List.not_mem_nil))
        have hf_mh : f41 mh = eO 7 [.int 2, .ref mg, .ref mr, .int (nI n), .ref mk, .ref mn, .int (nI nv), .ref ms, .ref nw, .ref ah] := hc41_0
        replace hFr : Fr f f41 [mh, mk, mn] := hFr.tr hw41 (by simp)
        subst hv41
        exact hend (0) f41 _ _ _ _ (⟨Or.inr (Or.inl ⟨by rw [in_t (k := 5) (by omega) c11, in_t (k := 60) (by omega) c21]; rfl, c36, hf_mh, hf_mk, hf_mn⟩), hFr⟩) hP hS rfl dX6_sign_44
    · skip
      refine lv_aload_n hx hb dX6_sign_24 rfl (lv_at hl 0 rfl) ?_
      refine lv_iconst (v := 1) hx hb dX6_sign_25 (by decide) ?_
      refine rw_V (As := [.int 1]) (rest := []) ⟨hx, hb, hml, hown, hts⟩ (m_X6_no l g L f2 _ hN _ _ _ _ _ _ _ _ _ _ _ _ hL_mh hf_mh) (cwV 1 hts gX6_sign_X6_no rfl rfl rfl (by decide +kernel) ⟨Nat.le_of_ble_eq_true rfl, Nat.le_of_ble_eq_true rfl⟩) hK hP hA hA2 hS hL_mh hf_mh rfl rfl hl.1 rfl (Nat.le_of_ble_eq_true rfl) dX6_sign_26 ⟨Nat.zero_le _, Nat.zero_le _⟩ (fun r26 f26 H locs hr26 hP hS => ?_)
      obtain ⟨hv26, hc26_0, hw26⟩ := hr26
      have hf_mk : f26 mk = eI g 8 kd := hw26.get hf_mk (nm_c n_mh_mk.symm (List.not_mem_nil))
      have hf_mn : f26 mn = eI g 8 nu := hw26.get hf_mn (nm_c n_mh_mn.symm (List.not_mem_nil))
      have hf_mh : f26 mh = eO 7 [.int 1, .ref mg, .ref mr, .int (nI n), .ref mk, .ref mn, .int (nI nv), .ref ms, .ref nw, .ref ah] := hc26_0
      replace hFr : Fr f f26 [mh, mk, mn] := hFr.tr hw26 (by simp)
      subst hv26
      exact hend (0) f26 _ _ _ _ (⟨Or.inl ⟨by rw [in_f (k := 60) (by omega) c21, Bool.and_false], hf_mh, hf_mk, hf_mn⟩, hFr⟩) hP hS rfl dX6_sign_29

set_option maxHeartbeats 4000000 in
set_option maxRecDepth 100000 in
theorem m_X6_join (l : Launch) (g : GG) (L : List Nat) (f : Nat → va_E) (sz : Nat) (hN : L.Nodup) (mh mg mr mk mn ms nw ah n nv : Nat) (th : Int32) (hL_mh : mh ∈ L) (hf_mh : f mh = eO 7 [.int th, .ref mg, .ref mr, .int (nI n), .ref mk, .ref mn, .int (nI nv), .ref ms, .ref nw, .ref ah]) (hnv : nv ≤ 6) : RW l g yX6_join wsX6_join 1 21 L f sz [.ref mh] (fun r f2 => ((nv = 6 ∧ f2 mh = eO 7 [.int 1, .ref mg, .ref mr, .int (nI n), .ref mk, .ref mn, .int (nI nv), .ref ms, .ref nw, .ref ah]) ∨ (nv < 6 ∧ r = nI nv ∧ f2 mh = eO 7 [.int 0, .ref mg, .ref mr, .int (nI n), .ref mk, .ref mn, .int (nI (nv + 1)), .ref ms, .ref nw, .ref ah])) ∧ Fr f f2 [mh]) := by
  refine RW.start (cc := cX6_join) (maxL := 1) (ret := .int) (by decide +kernel) rfl (by simp [lg_sl, Value.category]) ?_
  intro p e s m args below meth c Q ls A hx hb hml hts hown hA hA2 hS hP hK hl hend
  have hl : lv_has ls 1 [(0, .ref mh)] := hl
  have hi_X6 : ∀ w ∈ u_ws RX6 TX6 10, w ∈ wsX6_join := by decide +kernel
  have hFr : Fr f f [mh] := Fr.rf
  have h0f_mh := hf_mh
  refine lv_aload_n hx hb dX6_join_0 rfl (lv_at hl 0 rfl) ?_
  refine lv_iconst (v := 0) hx hb dX6_join_1 (by decide) ?_
  refine pg_put (ty := .int) (C := RX6) (T := TX6) (N := 10) hx hb hts hi_X6 tyX6 tyX6_ok nmX6 hown hK hP hN hA hS hL_mh hf_mh rfl 0 (by decide) (hts (.fieldLink RX6 41 "BarometerLeagueModel" "thrown" "I") (by decide +kernel)) (fun _ h9 => h9) rfl (by decide +kernel) rfl rfl (Nat.le_of_ble_eq_true rfl) dX6_join_2 (fun H locs hP hS => ?_)
  obtain ⟨f2, ef2⟩ : ∃ z, z = va_up f mh (eO 7 [.int 0, .ref mg, .ref mr, .int (nI n), .ref mk, .ref mn, .int (nI nv), .ref ms, .ref nw, .ref ah]) := ⟨_, rfl⟩
  replace hP : PP g L f2 H := by rw [ef2]; exact hP
  have hf_mh : f2 mh = eO 7 [.int 0, .ref mg, .ref mr, .int (nI n), .ref mk, .ref mn, .int (nI nv), .ref ms, .ref nw, .ref ah] := by rw [ef2]; exact va_up_self _ _ _
  replace hFr : Fr f f2 [mh] := by rw [ef2]; exact hFr.up (by simp)
  refine lv_aload_n hx hb dX6_join_5 rfl (lv_at hl 0 rfl) ?_
  refine pg_get (C := RX6) (T := TX6) (N := 10) hx hb hts hi_X6 hown hK hP hL_mh hf_mh rfl 6 (by decide) (hts (.fieldLink RX6 52 "BarometerLeagueModel" "villages" "I") (by decide +kernel)) (fun _ h9 => h9) rfl dX6_join_6 ?_
  refine lv_bipush (v := 6) hx hb dX6_join_9 (by decide) ?_
  refine lv_icmp_ne (tgt := 20) hx hb dX6_join_11 (by decide) (fun c11 => ?_) (fun c11 => ?_)
  · skip
    have c11 : ¬ nv = 6 := fun h => c11 ((nI_eq (a := nv) (b := 6) (by omega) (by omega)).mpr h)
    refine lv_aload_n hx hb dX6_join_20 rfl (lv_at hl 0 rfl) ?_
    refine lv_dup hx hb dX6_join_21 rfl ?_
    refine pg_get (C := RX6) (T := TX6) (N := 10) hx hb hts hi_X6 hown hK hP hL_mh hf_mh rfl 6 (by decide) (hts (.fieldLink RX6 52 "BarometerLeagueModel" "villages" "I") (by decide +kernel)) (fun _ h9 => h9) rfl dX6_join_22 ?_
    refine lv_iconst (v := 1) hx hb dX6_join_25 (by decide) ?_
    refine lv_iadd hx hb dX6_join_26 ?_
    refine lv_topi (fun v26 ev26 => ?_)
    refine pg_put (ty := .int) (C := RX6) (T := TX6) (N := 10) hx hb hts hi_X6 tyX6 tyX6_ok nmX6 hown hK hP hN hA hS hL_mh hf_mh rfl 6 (by decide) (hts (.fieldLink RX6 52 "BarometerLeagueModel" "villages" "I") (by decide +kernel)) (fun _ h9 => h9) rfl (by decide +kernel) rfl rfl (Nat.le_of_ble_eq_true rfl) dX6_join_27 (fun H locs hP hS => ?_)
    obtain ⟨f27, ef27⟩ : ∃ z, z = va_up f2 mh (eO 7 [.int 0, .ref mg, .ref mr, .int (nI n), .ref mk, .ref mn, .int v26, .ref ms, .ref nw, .ref ah]) := ⟨_, rfl⟩
    replace hP : PP g L f27 H := by rw [ef27]; exact hP
    have hf_mh : f27 mh = eO 7 [.int 0, .ref mg, .ref mr, .int (nI n), .ref mk, .ref mn, .int v26, .ref ms, .ref nw, .ref ah] := by rw [ef27]; exact va_up_self _ _ _
    replace hFr : Fr f f27 [mh] := by rw [ef27]; exact hFr.up (by simp)
    refine lv_aload_n hx hb dX6_join_30 rfl (lv_at hl 0 rfl) ?_
    refine pg_get (C := RX6) (T := TX6) (N := 10) hx hb hts hi_X6 hown hK hP hL_mh hf_mh rfl 6 (by decide) (hts (.fieldLink RX6 52 "BarometerLeagueModel" "villages" "I") (by decide +kernel)) (fun _ h9 => h9) rfl dX6_join_31 ?_
    refine lv_iconst (v := 1) hx hb dX6_join_34 (by decide) ?_
    refine lv_isub hx hb dX6_join_35 ?_
    refine lv_topi (fun v35 ev35 => ?_)
    exact hend (v35) f27 _ _ _ _ (⟨Or.inr ⟨by omega, pred1 ev26 ev35, by rw [hf_mh, ev26, nI_1]⟩, hFr⟩) hP hS rfl dX6_join_36
  · skip
    have c11 : nv = 6 := (nI_eq (a := nv) (b := 6) (by omega) (by omega)).mp (show nI nv = nI 6 from c11)
    refine lv_aload_n hx hb dX6_join_14 rfl (lv_at hl 0 rfl) ?_
    refine lv_iconst (v := 1) hx hb dX6_join_15 (by decide) ?_
    refine rw_V (As := [.int 1]) (rest := []) ⟨hx, hb, hml, hown, hts⟩ (m_X6_no l g L f2 _ hN _ _ _ _ _ _ _ _ _ _ _ _ hL_mh hf_mh) (cwV 1 hts gX6_join_X6_no rfl rfl rfl (by decide +kernel) ⟨Nat.le_of_ble_eq_true rfl, Nat.le_of_ble_eq_true rfl⟩) hK hP hA hA2 hS hL_mh hf_mh rfl rfl hl.1 rfl (Nat.le_of_ble_eq_true rfl) dX6_join_16 ⟨Nat.zero_le _, Nat.zero_le _⟩ (fun r16 f16 H locs hr16 hP hS => ?_)
    obtain ⟨hv16, hc16_0, hw16⟩ := hr16
    have hf_mh : f16 mh = eO 7 [.int 1, .ref mg, .ref mr, .int (nI n), .ref mk, .ref mn, .int (nI nv), .ref ms, .ref nw, .ref ah] := hc16_0
    replace hFr : Fr f f16 [mh] := hFr.tr hw16 (by simp)
    subst hv16
    exact hend (0) f16 _ _ _ _ (⟨Or.inl ⟨c11, hf_mh⟩, hFr⟩) hP hS rfl dX6_join_19

set_option maxHeartbeats 4000000 in
set_option maxRecDepth 100000 in
theorem m_X6_weigh (l : Launch) (g : GG) (L : List Nat) (f : Nat → va_E) (sz : Nat) (hN : L.Nodup) (mh mg mr mk mn ms ah n nv : Nat) (th : Int32) (nw np nc nr nwt d : Nat) (ht : Int32) (wt : Nat → Int32) (v x w : Int32) (hL_mh : mh ∈ L) (hf_mh : f mh = eO 7 [.int th, .ref mg, .ref mr, .int (nI n), .ref mk, .ref mn, .int (nI nv), .ref ms, .ref nw, .ref ah]) (hL_nw : nw ∈ L) (hf_nw : f nw = eO 6 [.int (nI d), .int ht, .ref np, .ref nc, .ref nr, .ref nwt]) (hL_nwt : nwt ∈ L) (hf_nwt : f nwt = eI g 48 wt) (hn : n ≤ 8) (hnv : nv ≤ 6) : RW l g yX6_weigh wsX6_weigh 2 43 L f sz [.ref mh, .int v, .int x, .int w] (fun r f2 => (((inB v nv && inB x n) = false ∧ f2 mh = eO 7 [.int 1, .ref mg, .ref mr, .int (nI n), .ref mk, .ref mn, .int (nI nv), .ref ms, .ref nw, .ref ah] ∧ f2 nwt = eI g 48 wt) ∨ ((inB v nv && inB x n) = true ∧ inB w 101 = false ∧ f2 mh = eO 7 [.int 2, .ref mg, .ref mr, .int (nI n), .ref mk, .ref mn, .int (nI nv), .ref ms, .ref nw, .ref ah] ∧ f2 nwt = eI g 48 wt) ∨ ∃ u j, u < nv ∧ v = nI u ∧ j < n ∧ x = nI j ∧ inB w 101 = true ∧ r = wt (8 * u + j) ∧ f2 mh = eO 7 [.int 0, .ref mg, .ref mr, .int (nI n), .ref mk, .ref mn, .int (nI nv), .ref ms, .ref nw, .ref ah] ∧ f2 nwt = eI g 48 (upd wt (8 * u + j) w)) ∧ Fr f f2 [mh, nwt]) := by
  refine RW.start (cc := cX6_weigh) (maxL := 5) (ret := .int) (by decide +kernel) rfl (by simp [lg_sl, Value.category]) ?_
  intro p e s m args below meth c Q ls A hx hb hml hts hown hA hA2 hS hP hK hl hend
  have hl : lv_has ls 5 [(0, .ref mh), (1, .int v), (2, .int x), (3, .int w)] := hl
  have hi_X5 : ∀ w ∈ u_ws RX5 TX5 6, w ∈ wsX6_weigh := by decide +kernel
  have hi_X6 : ∀ w ∈ u_ws RX6 TX6 10, w ∈ wsX6_weigh := by decide +kernel
  have hFr : Fr f f [mh, nwt] := Fr.rf
  have n_mh_nw : mh ≠ nw := ne_e hf_mh hf_nw (by simp)
  have n_mh_nwt : mh ≠ nwt := ne_e hf_mh hf_nwt (by simp)
  have n_nw_nwt : nw ≠ nwt := ne_e hf_nw hf_nwt (by simp)
  have h0f_mh := hf_mh
  have h0f_nw := hf_nw
  have h0f_nwt := hf_nwt
  refine lv_aload_n hx hb dX6_weigh_0 rfl (lv_at hl 0 rfl) ?_
  refine lv_iconst (v := 0) hx hb dX6_weigh_1 (by decide) ?_
  refine pg_put (ty := .int) (C := RX6) (T := TX6) (N := 10) hx hb hts hi_X6 tyX6 tyX6_ok nmX6 hown hK hP hN hA hS hL_mh hf_mh rfl 0 (by decide) (hts (.fieldLink RX6 41 "BarometerLeagueModel" "thrown" "I") (by decide +kernel)) (fun _ h9 => h9) rfl (by decide +kernel) rfl rfl (Nat.le_of_ble_eq_true rfl) dX6_weigh_2 (fun H locs hP hS => ?_)
  obtain ⟨f2, ef2⟩ : ∃ z, z = va_up f mh (eO 7 [.int 0, .ref mg, .ref mr, .int (nI n), .ref mk, .ref mn, .int (nI nv), .ref ms, .ref nw, .ref ah]) := ⟨_, rfl⟩
  replace hP : PP g L f2 H := by rw [ef2]; exact hP
  have hf_nw : f2 nw = eO 6 [.int (nI d), .int ht, .ref np, .ref nc, .ref nr, .ref nwt] := by rw [ef2, va_up_ne _ _ n_mh_nw.symm]; exact hf_nw
  have hf_nwt : f2 nwt = eI g 48 wt := by rw [ef2, va_up_ne _ _ n_mh_nwt.symm]; exact hf_nwt
  have hf_mh : f2 mh = eO 7 [.int 0, .ref mg, .ref mr, .int (nI n), .ref mk, .ref mn, .int (nI nv), .ref ms, .ref nw, .ref ah] := by rw [ef2]; exact va_up_self _ _ _
  replace hFr : Fr f f2 [mh, nwt] := by rw [ef2]; exact hFr.up (by simp)
  refine lv_aload_n hx hb dX6_weigh_5 rfl (lv_at hl 0 rfl) ?_
  refine lv_iload_n hx hb dX6_weigh_6 rfl (lv_at hl 1 rfl) ?_
  refine ro_V (As := [.int v]) (rest := []) ⟨hx, hb, hml, hown, hts⟩ (m_X6_isVillage l g L f2 _ _ _ _ _ _ _ _ _ _ _ v hL_mh hf_mh (by assumption) (by assumption)) (cwV 1 hts gX6_weigh_X6_isVillage rfl rfl rfl (by decide +kernel) ⟨Nat.le_of_ble_eq_true rfl, Nat.le_of_ble_eq_true rfl⟩) hK hP hL_mh hf_mh rfl rfl hl.1 rfl (Nat.le_of_ble_eq_true rfl) dX6_weigh_7 ⟨Nat.zero_le _, Nat.zero_le _⟩ (fun r7 hr7 => ?_)
  have hr7 : r7 = b2i (inB v nv) := hr7
  subst hr7
  refine lv_if_eq (tgt := 21) hx hb dX6_weigh_10 (by decide) (fun c10 => ?_) (fun c10 => ?_)
  · skip
    refine lv_aload_n hx hb dX6_weigh_21 rfl (lv_at hl 0 rfl) ?_
    refine lv_iconst (v := 1) hx hb dX6_weigh_22 (by decide) ?_
    refine rw_V (As := [.int 1]) (rest := []) ⟨hx, hb, hml, hown, hts⟩ (m_X6_no l g L f2 _ hN _ _ _ _ _ _ _ _ _ _ _ _ hL_mh hf_mh) (cwV 1 hts gX6_weigh_X6_no rfl rfl rfl (by decide +kernel) ⟨Nat.le_of_ble_eq_true rfl, Nat.le_of_ble_eq_true rfl⟩) hK hP hA hA2 hS hL_mh hf_mh rfl rfl hl.1 rfl (Nat.le_of_ble_eq_true rfl) dX6_weigh_23 ⟨Nat.zero_le _, Nat.zero_le _⟩ (fun r23 f23 H locs hr23 hP hS => ?_)
    obtain ⟨hv23, hc23_0, hw23⟩ := hr23
    have hf_nw : f23 nw = eO 6 [.int (nI d), .int ht, .ref np, .ref nc, .ref nr, .ref nwt] := hw23.get hf_nw (nm_c n_mh_nw.symm (List.not_mem_nil))
    have hf_nwt : f23 nwt = eI g 48 wt := hw23.get hf_nwt (nm_c n_mh_nwt.symm (List.not_mem_nil))
    have hf_mh : f23 mh = eO 7 [.int 1, .ref mg, .ref mr, .int (nI n), .ref mk, .ref mn, .int (nI nv), .ref ms, .ref nw, .ref ah] := hc23_0
    replace hFr : Fr f f23 [mh, nwt] := hFr.tr hw23 (by simp)
    subst hv23
    exact hend (0) f23 _ _ _ _ (⟨Or.inl ⟨by rw [z_f c10]; rfl, hf_mh, hf_nwt⟩, hFr⟩) hP hS rfl dX6_weigh_26
  · skip
    refine lv_aload_n hx hb dX6_weigh_13 rfl (lv_at hl 0 rfl) ?_
    refine lv_iload_n hx hb dX6_weigh_14 rfl (lv_at hl 2 rfl) ?_
    refine ro_V (As := [.int x]) (rest := []) ⟨hx, hb, hml, hown, hts⟩ (m_X6_isSign l g L f2 _ _ _ _ _ _ _ _ _ _ _ x hL_mh hf_mh (by assumption) (by assumption)) (cwV 1 hts gX6_weigh_X6_isSign rfl rfl rfl (by decide +kernel) ⟨Nat.le_of_ble_eq_true rfl, Nat.le_of_ble_eq_true rfl⟩) hK hP hL_mh hf_mh rfl rfl hl.1 rfl (Nat.le_of_ble_eq_true rfl) dX6_weigh_15 ⟨Nat.zero_le _, Nat.zero_le _⟩ (fun r15 hr15 => ?_)
    have hr15 : r15 = b2i (inB x n) := hr15
    subst hr15
    refine lv_if_ne (tgt := 27) hx hb dX6_weigh_18 (by decide) (fun c18 => ?_) (fun c18 => ?_)
    · skip
      refine lv_iload_n hx hb dX6_weigh_27 rfl (lv_at hl 3 rfl) ?_
      refine lv_iconst (v := 0) hx hb dX6_weigh_28 (by decide) ?_
      refine lv_bipush (v := 100) hx hb dX6_weigh_29 (by decide) ?_
      refine ro_S (As := [.int w, .int 0, .int 100]) (rest := []) ⟨hx, hb, hml, hown, hts⟩ (m_X6_isIn l g L f2 w _ _ ) (va_cwS 3 hts gX6_weigh_X6_isIn rfl rfl rfl (by decide +kernel) ⟨Nat.le_of_ble_eq_true rfl, Nat.le_of_ble_eq_true rfl⟩) hK hP rfl hl.1 rfl (Nat.le_of_ble_eq_true rfl) dX6_weigh_31 ⟨Nat.zero_le _, Nat.zero_le _⟩ (fun r31 hr31 => ?_)
      have hr31 : r31 = b2i (decide (0 ≤ w ∧ w ≤ 100)) := hr31
      subst hr31
      refine lv_if_ne (tgt := 43) hx hb dX6_weigh_34 (by decide) (fun c34 => ?_) (fun c34 => ?_)
      · skip
        obtain ⟨u, hu, rfl⟩ := inB_of (nz_t c10) (by omega)
        obtain ⟨j, hj, rfl⟩ := inB_of (nz_t c18) (by omega)
        refine lv_aload_n hx hb dX6_weigh_43 rfl (lv_at hl 0 rfl) ?_
        refine pg_get (C := RX6) (T := TX6) (N := 10) hx hb hts hi_X6 hown hK hP hL_mh hf_mh rfl 8 (by decide) (hts (.fieldLink RX6 28 "BarometerLeagueModel" "now" "LBarometerLeagueModel$State;") (by decide +kernel)) (fun _ h9 => h9) rfl dX6_weigh_44 ?_
        refine pg_getN (C := RX5) (T := TX5) (N := 6) hx hb hts hi_X5 hown hK hP hL_nw hf_nw rfl 5 (by decide) (hK.nest 12 rfl) (fun _ h9 => h9) rfl dX6_weigh_47 ?_
        refine lv_bipush (v := 8) hx hb dX6_weigh_50 (by decide) ?_
        refine lv_iload_n hx hb dX6_weigh_52 rfl (lv_at hl 1 rfl) ?_
        refine lv_imul hx hb dX6_weigh_53 ?_
        refine lv_topi (fun v53 ev53 => ?_)
        refine lv_iload_n hx hb dX6_weigh_54 rfl (lv_at hl 2 rfl) ?_
        refine lv_iadd hx hb dX6_weigh_55 ?_
        refine lv_topi (fun v55 ev55 => ?_)
        refine pn_iald (j := 8 * u + j) hx hb hK hP hL_nwt hf_nwt (ev55.trans (nat_add (ev53.trans (nat_mul rfl rfl)) rfl)) (by omega) (Nat.lt_of_lt_of_le (m := 100) (by omega) (by omega)) dX6_weigh_56 ?_
        refine lv_istore (lv' := [(4, .int (wt (8 * u + j))), (0, .ref mh), (1, .int (nI u)), (2, .int (nI j)), (3, .int w)]) hx hb dX6_weigh_57 hl (by decide) rfl (fun ls hl => ?_)
        refine lv_aload_n hx hb dX6_weigh_59 rfl (lv_at hl 1 rfl) ?_
        refine pg_get (C := RX6) (T := TX6) (N := 10) hx hb hts hi_X6 hown hK hP hL_mh hf_mh rfl 8 (by decide) (hts (.fieldLink RX6 28 "BarometerLeagueModel" "now" "LBarometerLeagueModel$State;") (by decide +kernel)) (fun _ h9 => h9) rfl dX6_weigh_60 ?_
        refine pg_getN (C := RX5) (T := TX5) (N := 6) hx hb hts hi_X5 hown hK hP hL_nw hf_nw rfl 5 (by decide) (hK.nest 12 rfl) (fun _ h9 => h9) rfl dX6_weigh_63 ?_
        refine lv_bipush (v := 8) hx hb dX6_weigh_66 (by decide) ?_
        refine lv_iload_n hx hb dX6_weigh_68 rfl (lv_at hl 2 rfl) ?_
        refine lv_imul hx hb dX6_weigh_69 ?_
        refine lv_topi (fun v69 ev69 => ?_)
        refine lv_iload_n hx hb dX6_weigh_70 rfl (lv_at hl 3 rfl) ?_
        refine lv_iadd hx hb dX6_weigh_71 ?_
        refine lv_topi (fun v71 ev71 => ?_)
        refine lv_iload_n hx hb dX6_weigh_72 rfl (lv_at hl 4 rfl) ?_
        refine pn_iast (j := 8 * u + j) hx hb hK hP hN hA hS hL_nwt hf_nwt (ev71.trans (nat_add (ev69.trans (nat_mul rfl rfl)) rfl)) (by omega) (Nat.lt_of_lt_of_le (m := 100) (by omega) (by omega)) dX6_weigh_73 (fun H locs hP hS => ?_)
        obtain ⟨f73, ef73⟩ : ∃ z, z = va_up f2 nwt (eI g 48 (upd wt (8 * u + j) w)) := ⟨_, rfl⟩
        replace hP : PP g L f73 H := by rw [ef73]; exact hP
        have hf_mh : f73 mh = eO 7 [.int 0, .ref mg, .ref mr, .int (nI n), .ref mk, .ref mn, .int (nI nv), .ref ms, .ref nw, .ref ah] := by rw [ef73, va_up_ne _ _ n_mh_nwt]; exact hf_mh
        have hf_nw : f73 nw = eO 6 [.int (nI d), .int ht, .ref np, .ref nc, .ref nr, .ref nwt] := by rw [ef73, va_up_ne _ _ n_nw_nwt]; exact hf_nw
        have hf_nwt : f73 nwt = eI g 48 (upd wt (8 * u + j) w) := by rw [ef73]; exact va_up_self _ _ _
        replace hFr : Fr f f73 [mh, nwt] := by rw [ef73]; exact hFr.up (by simp)
        refine lv_iload hx hb dX6_weigh_74 (lv_at hl 0 rfl) ?_
        exact hend (wt (8 * u + j)) f73 _ _ _ _ (⟨Or.inr (Or.inr ⟨u, j, hu, rfl, hj, rfl, in_t (k := 100) (by omega) c34, rfl, hf_mh, hf_nwt⟩), hFr⟩) hP hS rfl dX6_weigh_76
      · skip
        refine lv_aload_n hx hb dX6_weigh_37 rfl (lv_at hl 0 rfl) ?_
        refine lv_iconst (v := 2) hx hb dX6_weigh_38 (by decide) ?_
        refine rw_V (As := [.int 2]) (rest := []) ⟨hx, hb, hml, hown, hts⟩ (m_X6_no l g L f2 _ hN _ _ _ _ _ _ _ _ _ _ _ _ hL_mh hf_mh) (cwV 1 hts gX6_weigh_X6_no rfl rfl rfl (by decide +kernel) ⟨Nat.le_of_ble_eq_true rfl, Nat.le_of_ble_eq_true rfl⟩) hK hP hA hA2 hS hL_mh hf_mh rfl rfl hl.1 rfl (Nat.le_of_ble_eq_true rfl) dX6_weigh_39 ⟨Nat.zero_le _, Nat.zero_le _⟩ (fun r39 f39 H locs hr39 hP hS => ?_)
        obtain ⟨hv39, hc39_0, hw39⟩ := hr39
        have hf_nw : f39 nw = eO 6 [.int (nI d), .int ht, .ref np, .ref nc, .ref nr, .ref nwt] := hw39.get hf_nw (nm_c n_mh_nw.symm (List.not_mem_nil))
        have hf_nwt : f39 nwt = eI g 48 wt := hw39.get hf_nwt (nm_c n_mh_nwt.symm (List.not_mem_nil))
        have hf_mh : f39 mh = eO 7 [.int 2, .ref mg, .ref mr, .int (nI n), .ref mk, .ref mn, .int (nI nv), .ref ms, .ref nw, .ref ah] := hc39_0
        replace hFr : Fr f f39 [mh, nwt] := hFr.tr hw39 (by simp)
        subst hv39
        exact hend (0) f39 _ _ _ _ (⟨Or.inr (Or.inl ⟨by rw [nz_t c10, nz_t c18]; rfl, in_f (k := 100) (by omega) c34, hf_mh, hf_nwt⟩), hFr⟩) hP hS rfl dX6_weigh_42
    · skip
      refine lv_aload_n hx hb dX6_weigh_21 rfl (lv_at hl 0 rfl) ?_
      refine lv_iconst (v := 1) hx hb dX6_weigh_22 (by decide) ?_
      refine rw_V (As := [.int 1]) (rest := []) ⟨hx, hb, hml, hown, hts⟩ (m_X6_no l g L f2 _ hN _ _ _ _ _ _ _ _ _ _ _ _ hL_mh hf_mh) (cwV 1 hts gX6_weigh_X6_no rfl rfl rfl (by decide +kernel) ⟨Nat.le_of_ble_eq_true rfl, Nat.le_of_ble_eq_true rfl⟩) hK hP hA hA2 hS hL_mh hf_mh rfl rfl hl.1 rfl (Nat.le_of_ble_eq_true rfl) dX6_weigh_23 ⟨Nat.zero_le _, Nat.zero_le _⟩ (fun r23 f23 H locs hr23 hP hS => ?_)
      obtain ⟨hv23, hc23_0, hw23⟩ := hr23
      have hf_nw : f23 nw = eO 6 [.int (nI d), .int ht, .ref np, .ref nc, .ref nr, .ref nwt] := hw23.get hf_nw (nm_c n_mh_nw.symm (List.not_mem_nil))
      have hf_nwt : f23 nwt = eI g 48 wt := hw23.get hf_nwt (nm_c n_mh_nwt.symm (List.not_mem_nil))
      have hf_mh : f23 mh = eO 7 [.int 1, .ref mg, .ref mr, .int (nI n), .ref mk, .ref mn, .int (nI nv), .ref ms, .ref nw, .ref ah] := hc23_0
      replace hFr : Fr f f23 [mh, nwt] := hFr.tr hw23 (by simp)
      subst hv23
      exact hend (0) f23 _ _ _ _ (⟨Or.inl ⟨by rw [z_f c18, Bool.and_false], hf_mh, hf_nwt⟩, hFr⟩) hP hS rfl dX6_weigh_26

set_option maxHeartbeats 4000000 in
set_option maxRecDepth 100000 in
theorem m_X6_says (l : Launch) (g : GG) (L : List Nat) (f : Nat → va_E) (sz : Nat) (hN : L.Nodup) (mh mg mr mk mn ms nw ah n nv : Nat) (th : Int32) (gl rn kd nu : Nat → Int32) (x y : Int32) (hL_mh : mh ∈ L) (hf_mh : f mh = eO 7 [.int th, .ref mg, .ref mr, .int (nI n), .ref mk, .ref mn, .int (nI nv), .ref ms, .ref nw, .ref ah]) (hL_mg : mg ∈ L) (hf_mg : f mg = eI g 12 gl) (hL_mr : mr ∈ L) (hf_mr : f mr = eI g 12 rn) (hL_mk : mk ∈ L) (hf_mk : f mk = eI g 8 kd) (hL_mn : mn ∈ L) (hf_mn : f mn = eI g 8 nu) (hn : n ≤ 8) (hnv : nv ≤ 6) : RW l g yX6_says wsX6_says 2 43 L f sz [.ref mh, .int x, .int y] (fun r f2 => ((inB x n = false ∧ r = 0 ∧ f2 mh = eO 7 [.int 1, .ref mg, .ref mr, .int (nI n), .ref mk, .ref mn, .int (nI nv), .ref ms, .ref nw, .ref ah]) ∨ (inB x n = true ∧ inB y 1000 = false ∧ r = 0 ∧ f2 mh = eO 7 [.int 2, .ref mg, .ref mr, .int (nI n), .ref mk, .ref mn, .int (nI nv), .ref ms, .ref nw, .ref ah]) ∨ ∃ j k, j < n ∧ x = nI j ∧ k < 1000 ∧ y = nI k ∧ r = b2i (sayB (kd j) (nu j) gl rn k) ∧ f2 mh = eO 7 [.int 0, .ref mg, .ref mr, .int (nI n), .ref mk, .ref mn, .int (nI nv), .ref ms, .ref nw, .ref ah]) ∧ Fr f f2 [mh]) := by
  refine RW.start (cc := cX6_says) (maxL := 3) (ret := .boolean) (by decide +kernel) rfl (by simp [lg_sl, Value.category]) ?_
  intro p e s m args below meth c Q ls A hx hb hml hts hown hA hA2 hS hP hK hl hend
  have hl : lv_has ls 3 [(0, .ref mh), (1, .int x), (2, .int y)] := hl
  have hi_X6 : ∀ w ∈ u_ws RX6 TX6 10, w ∈ wsX6_says := by decide +kernel
  have hFr : Fr f f [mh] := Fr.rf
  have n_mh_mg : mh ≠ mg := ne_e hf_mh hf_mg (by simp)
  have n_mh_mr : mh ≠ mr := ne_e hf_mh hf_mr (by simp)
  have n_mh_mk : mh ≠ mk := ne_e hf_mh hf_mk (by simp)
  have n_mh_mn : mh ≠ mn := ne_e hf_mh hf_mn (by simp)
  have n_mg_mk : mg ≠ mk := ne_e hf_mg hf_mk (by simp)
  have n_mg_mn : mg ≠ mn := ne_e hf_mg hf_mn (by simp)
  have n_mr_mk : mr ≠ mk := ne_e hf_mr hf_mk (by simp)
  have n_mr_mn : mr ≠ mn := ne_e hf_mr hf_mn (by simp)
  have h0f_mh := hf_mh
  have h0f_mg := hf_mg
  have h0f_mr := hf_mr
  have h0f_mk := hf_mk
  have h0f_mn := hf_mn
  refine lv_aload_n hx hb dX6_says_0 rfl (lv_at hl 0 rfl) ?_
  refine lv_aload_n hx hb dX6_says_1 rfl (lv_at hl 0 rfl) ?_
  refine lv_iload_n hx hb dX6_says_2 rfl (lv_at hl 1 rfl) ?_
  refine ro_V (As := [.int x]) (rest := [.ref mh]) ⟨hx, hb, hml, hown, hts⟩ (m_X6_isSign l g L f _ _ _ _ _ _ _ _ _ _ _ x hL_mh hf_mh (by assumption) (by assumption)) (cwV 1 hts gX6_says_X6_isSign rfl rfl rfl (by decide +kernel) ⟨Nat.le_of_ble_eq_true rfl, Nat.le_of_ble_eq_true rfl⟩) hK hP hL_mh hf_mh rfl rfl hl.1 rfl (Nat.le_of_ble_eq_true rfl) dX6_says_3 ⟨Nat.zero_le _, Nat.zero_le _⟩ (fun r3 hr3 => ?_)
  have hr3 : r3 = b2i (inB x n) := hr3
  subst hr3
  refine lv_if_ne (tgt := 13) hx hb dX6_says_6 (by decide) (fun c6 => ?_) (fun c6 => ?_)
  · skip
    refine lv_iload_n hx hb dX6_says_13 rfl (lv_at hl 2 rfl) ?_
    refine lv_iconst (v := 0) hx hb dX6_says_14 (by decide) ?_
    refine lv_sipush (v := 999) hx hb dX6_says_15 (by decide) ?_
    refine ro_S (As := [.int y, .int 0, .int 999]) (rest := [.ref mh]) ⟨hx, hb, hml, hown, hts⟩ (m_X6_isIn l g L f y _ _ ) (va_cwS 3 hts gX6_says_X6_isIn rfl rfl rfl (by decide +kernel) ⟨Nat.le_of_ble_eq_true rfl, Nat.le_of_ble_eq_true rfl⟩) hK hP rfl hl.1 rfl (Nat.le_of_ble_eq_true rfl) dX6_says_18 ⟨Nat.zero_le _, Nat.zero_le _⟩ (fun r18 hr18 => ?_)
    have hr18 : r18 = b2i (decide (0 ≤ y ∧ y ≤ 999)) := hr18
    subst hr18
    refine lv_if_ne (tgt := 28) hx hb dX6_says_21 (by decide) (fun c21 => ?_) (fun c21 => ?_)
    · skip
      refine lv_iconst (v := 0) hx hb dX6_says_28 (by decide) ?_
      refine pg_put (ty := .int) (C := RX6) (T := TX6) (N := 10) hx hb hts hi_X6 tyX6 tyX6_ok nmX6 hown hK hP hN hA hS hL_mh hf_mh rfl 0 (by decide) (hts (.fieldLink RX6 41 "BarometerLeagueModel" "thrown" "I") (by decide +kernel)) (fun _ h9 => h9) rfl (by decide +kernel) rfl rfl (Nat.le_of_ble_eq_true rfl) dX6_says_29 (fun H locs hP hS => ?_)
      obtain ⟨f29, ef29⟩ : ∃ z, z = va_up f mh (eO 7 [.int 0, .ref mg, .ref mr, .int (nI n), .ref mk, .ref mn, .int (nI nv), .ref ms, .ref nw, .ref ah]) := ⟨_, rfl⟩
      replace hP : PP g L f29 H := by rw [ef29]; exact hP
      have hf_mg : f29 mg = eI g 12 gl := by rw [ef29, va_up_ne _ _ n_mh_mg.symm]; exact hf_mg
      have hf_mr : f29 mr = eI g 12 rn := by rw [ef29, va_up_ne _ _ n_mh_mr.symm]; exact hf_mr
      have hf_mk : f29 mk = eI g 8 kd := by rw [ef29, va_up_ne _ _ n_mh_mk.symm]; exact hf_mk
      have hf_mn : f29 mn = eI g 8 nu := by rw [ef29, va_up_ne _ _ n_mh_mn.symm]; exact hf_mn
      have hf_mh : f29 mh = eO 7 [.int 0, .ref mg, .ref mr, .int (nI n), .ref mk, .ref mn, .int (nI nv), .ref ms, .ref nw, .ref ah] := by rw [ef29]; exact va_up_self _ _ _
      replace hFr : Fr f f29 [mh] := by rw [ef29]; exact hFr.up (by simp)
      refine lv_aload_n hx hb dX6_says_32 rfl (lv_at hl 0 rfl) ?_
      refine pg_get (C := RX6) (T := TX6) (N := 10) hx hb hts hi_X6 hown hK hP hL_mh hf_mh rfl 0 (by decide) (hts (.fieldLink RX6 41 "BarometerLeagueModel" "thrown" "I") (by decide +kernel)) (fun _ h9 => h9) rfl dX6_says_33 ?_
      refine lv_if_ne (tgt := 52) hx hb dX6_says_36 (by decide) (fun h => absurd h (by decide)) (fun _ => ?_)
      obtain ⟨j, hj, rfl⟩ := inB_of (nz_t c6) (by omega)
      obtain ⟨k, hk, rfl⟩ := inB_of (in_t (k := 999) (by omega) c21) (by omega)
      refine lv_aload_n hx hb dX6_says_39 rfl (lv_at hl 0 rfl) ?_
      refine lv_iload_n hx hb dX6_says_40 rfl (lv_at hl 1 rfl) ?_
      refine lv_iload_n hx hb dX6_says_41 rfl (lv_at hl 2 rfl) ?_
      refine ro_V (As := [.int (nI j), .int (nI k)]) (rest := []) ⟨hx, hb, hml, hown, hts⟩ (m_X6_isRain l g L f29 _ _ _ _ _ _ _ _ _ _ _ _ _ _ _ j k hL_mh hf_mh hL_mg hf_mg hL_mr hf_mr hL_mk hf_mk hL_mn hf_mn (by omega) (by omega)) (cwV 2 hts gX6_says_X6_isRain rfl rfl rfl (by decide +kernel) ⟨Nat.le_of_ble_eq_true rfl, Nat.le_of_ble_eq_true rfl⟩) hK hP hL_mh hf_mh rfl rfl hl.1 rfl (Nat.le_of_ble_eq_true rfl) dX6_says_42 ⟨Nat.zero_le _, Nat.zero_le _⟩ (fun r42 hr42 => ?_)
      have hr42 : r42 = b2i (sayB (kd j) (nu j) gl rn k) := hr42
      subst hr42
      refine lv_if_eq (tgt := 52) hx hb dX6_says_45 (by decide) (fun c45 => ?_) (fun c45 => ?_)
      · skip
        refine lv_iconst (v := 0) hx hb dX6_says_52 (by decide) ?_
        exact hend (0) f29 _ _ _ _ (⟨Or.inr (Or.inr ⟨j, k, hj, rfl, hk, rfl, c45.symm, hf_mh⟩), hFr⟩) hP hS rfl dX6_says_53
      · skip
        refine lv_iconst (v := 1) hx hb dX6_says_48 (by decide) ?_
        refine lv_goto (tgt := 53) hx hb dX6_says_49 (by decide) ?_
        exact hend (1) f29 _ _ _ _ (⟨Or.inr (Or.inr ⟨j, k, hj, rfl, hk, rfl, (bool1 ⟨_, rfl⟩ c45).symm, hf_mh⟩), hFr⟩) hP hS rfl dX6_says_53
    · skip
      refine lv_iconst (v := 2) hx hb dX6_says_24 (by decide) ?_
      refine lv_goto (tgt := 29) hx hb dX6_says_25 (by decide) ?_
      refine pg_put (ty := .int) (C := RX6) (T := TX6) (N := 10) hx hb hts hi_X6 tyX6 tyX6_ok nmX6 hown hK hP hN hA hS hL_mh hf_mh rfl 0 (by decide) (hts (.fieldLink RX6 41 "BarometerLeagueModel" "thrown" "I") (by decide +kernel)) (fun _ h9 => h9) rfl (by decide +kernel) rfl rfl (Nat.le_of_ble_eq_true rfl) dX6_says_29 (fun H locs hP hS => ?_)
      obtain ⟨f29, ef29⟩ : ∃ z, z = va_up f mh (eO 7 [.int 2, .ref mg, .ref mr, .int (nI n), .ref mk, .ref mn, .int (nI nv), .ref ms, .ref nw, .ref ah]) := ⟨_, rfl⟩
      replace hP : PP g L f29 H := by rw [ef29]; exact hP
      have hf_mg : f29 mg = eI g 12 gl := by rw [ef29, va_up_ne _ _ n_mh_mg.symm]; exact hf_mg
      have hf_mr : f29 mr = eI g 12 rn := by rw [ef29, va_up_ne _ _ n_mh_mr.symm]; exact hf_mr
      have hf_mk : f29 mk = eI g 8 kd := by rw [ef29, va_up_ne _ _ n_mh_mk.symm]; exact hf_mk
      have hf_mn : f29 mn = eI g 8 nu := by rw [ef29, va_up_ne _ _ n_mh_mn.symm]; exact hf_mn
      have hf_mh : f29 mh = eO 7 [.int 2, .ref mg, .ref mr, .int (nI n), .ref mk, .ref mn, .int (nI nv), .ref ms, .ref nw, .ref ah] := by rw [ef29]; exact va_up_self _ _ _
      replace hFr : Fr f f29 [mh] := by rw [ef29]; exact hFr.up (by simp)
      refine lv_aload_n hx hb dX6_says_32 rfl (lv_at hl 0 rfl) ?_
      refine pg_get (C := RX6) (T := TX6) (N := 10) hx hb hts hi_X6 hown hK hP hL_mh hf_mh rfl 0 (by decide) (hts (.fieldLink RX6 41 "BarometerLeagueModel" "thrown" "I") (by decide +kernel)) (fun _ h9 => h9) rfl dX6_says_33 ?_
      refine lv_if_ne (tgt := 52) hx hb dX6_says_36 (by decide) (fun _ => ?_) (fun h => absurd h (by decide))
      refine lv_iconst (v := 0) hx hb dX6_says_52 (by decide) ?_
      exact hend (0) f29 _ _ _ _ (⟨Or.inr (Or.inl ⟨nz_t c6, in_f (k := 999) (by omega) c21, rfl, hf_mh⟩), hFr⟩) hP hS rfl dX6_says_53
  · skip
    refine lv_iconst (v := 1) hx hb dX6_says_9 (by decide) ?_
    refine lv_goto (tgt := 29) hx hb dX6_says_10 (by decide) ?_
    refine pg_put (ty := .int) (C := RX6) (T := TX6) (N := 10) hx hb hts hi_X6 tyX6 tyX6_ok nmX6 hown hK hP hN hA hS hL_mh hf_mh rfl 0 (by decide) (hts (.fieldLink RX6 41 "BarometerLeagueModel" "thrown" "I") (by decide +kernel)) (fun _ h9 => h9) rfl (by decide +kernel) rfl rfl (Nat.le_of_ble_eq_true rfl) dX6_says_29 (fun H locs hP hS => ?_)
    obtain ⟨f29, ef29⟩ : ∃ z, z = va_up f mh (eO 7 [.int 1, .ref mg, .ref mr, .int (nI n), .ref mk, .ref mn, .int (nI nv), .ref ms, .ref nw, .ref ah]) := ⟨_, rfl⟩
    replace hP : PP g L f29 H := by rw [ef29]; exact hP
    have hf_mg : f29 mg = eI g 12 gl := by rw [ef29, va_up_ne _ _ n_mh_mg.symm]; exact hf_mg
    have hf_mr : f29 mr = eI g 12 rn := by rw [ef29, va_up_ne _ _ n_mh_mr.symm]; exact hf_mr
    have hf_mk : f29 mk = eI g 8 kd := by rw [ef29, va_up_ne _ _ n_mh_mk.symm]; exact hf_mk
    have hf_mn : f29 mn = eI g 8 nu := by rw [ef29, va_up_ne _ _ n_mh_mn.symm]; exact hf_mn
    have hf_mh : f29 mh = eO 7 [.int 1, .ref mg, .ref mr, .int (nI n), .ref mk, .ref mn, .int (nI nv), .ref ms, .ref nw, .ref ah] := by rw [ef29]; exact va_up_self _ _ _
    replace hFr : Fr f f29 [mh] := by rw [ef29]; exact hFr.up (by simp)
    refine lv_aload_n hx hb dX6_says_32 rfl (lv_at hl 0 rfl) ?_
    refine pg_get (C := RX6) (T := TX6) (N := 10) hx hb hts hi_X6 hown hK hP hL_mh hf_mh rfl 0 (by decide) (hts (.fieldLink RX6 41 "BarometerLeagueModel" "thrown" "I") (by decide +kernel)) (fun _ h9 => h9) rfl dX6_says_33 ?_
    refine lv_if_ne (tgt := 52) hx hb dX6_says_36 (by decide) (fun _ => ?_) (fun h => absurd h (by decide))
    refine lv_iconst (v := 0) hx hb dX6_says_52 (by decide) ?_
    exact hend (0) f29 _ _ _ _ (⟨Or.inl ⟨z_f c6, rfl, hf_mh⟩, hFr⟩) hP hS rfl dX6_says_53

set_option maxHeartbeats 4000000 in
set_option maxRecDepth 100000 in
theorem m_X6_told (l : Launch) (g : GG) (L : List Nat) (f : Nat → va_E) (sz : Nat) (hN : L.Nodup) (mh mg mr mk mn ms ah n nv : Nat) (th : Int32) (gl rn kd nu : Nat → Int32) (nw np nc nr nwt d : Nat) (ht : Int32) (wt : Nat → Int32) (x y : Int32) (hL_mh : mh ∈ L) (hf_mh : f mh = eO 7 [.int th, .ref mg, .ref mr, .int (nI n), .ref mk, .ref mn, .int (nI nv), .ref ms, .ref nw, .ref ah]) (hL_mg : mg ∈ L) (hf_mg : f mg = eI g 12 gl) (hL_mr : mr ∈ L) (hf_mr : f mr = eI g 12 rn) (hL_mk : mk ∈ L) (hf_mk : f mk = eI g 8 kd) (hL_mn : mn ∈ L) (hf_mn : f mn = eI g 8 nu) (hL_nw : nw ∈ L) (hf_nw : f nw = eO 6 [.int (nI d), .int ht, .ref np, .ref nc, .ref nr, .ref nwt]) (hL_nwt : nwt ∈ L) (hf_nwt : f nwt = eI g 48 wt) (hn : n ≤ 8) (hnv : nv ≤ 6) : RW l g yX6_told wsX6_told 4 93 L f sz [.ref mh, .int x, .int y] (fun r f2 => (((inB x n && inB y 4) = false ∧ f2 mh = eO 7 [.int 1, .ref mg, .ref mr, .int (nI n), .ref mk, .ref mn, .int (nI nv), .ref ms, .ref nw, .ref ah]) ∨ ∃ j k, j < n ∧ x = nI j ∧ k < 4 ∧ y = nI k ∧ r = toldM kd nu gl rn wt nv j k ∧ f2 mh = eO 7 [.int 0, .ref mg, .ref mr, .int (nI n), .ref mk, .ref mn, .int (nI nv), .ref ms, .ref nw, .ref ah]) ∧ Fr f f2 [mh]) := by
  refine RW.start (cc := cX6_told) (maxL := 3) (ret := .int) (by decide +kernel) rfl (by simp [lg_sl, Value.category]) ?_
  intro p e s m args below meth c Q ls A hx hb hml hts hown hA hA2 hS hP hK hl hend
  have hl : lv_has ls 3 [(0, .ref mh), (1, .int x), (2, .int y)] := hl
  have hi_X6 : ∀ w ∈ u_ws RX6 TX6 10, w ∈ wsX6_told := by decide +kernel
  have hFr : Fr f f [mh] := Fr.rf
  have n_mh_mg : mh ≠ mg := ne_e hf_mh hf_mg (by simp)
  have n_mh_mr : mh ≠ mr := ne_e hf_mh hf_mr (by simp)
  have n_mh_mk : mh ≠ mk := ne_e hf_mh hf_mk (by simp)
  have n_mh_mn : mh ≠ mn := ne_e hf_mh hf_mn (by simp)
  have n_mh_nw : mh ≠ nw := ne_e hf_mh hf_nw (by simp)
  have n_mh_nwt : mh ≠ nwt := ne_e hf_mh hf_nwt (by simp)
  have n_mg_mk : mg ≠ mk := ne_e hf_mg hf_mk (by simp)
  have n_mg_mn : mg ≠ mn := ne_e hf_mg hf_mn (by simp)
  have n_mg_nw : mg ≠ nw := ne_e hf_mg hf_nw (by simp)
  have n_mg_nwt : mg ≠ nwt := ne_e hf_mg hf_nwt (by simp)
  have n_mr_mk : mr ≠ mk := ne_e hf_mr hf_mk (by simp)
  have n_mr_mn : mr ≠ mn := ne_e hf_mr hf_mn (by simp)
  have n_mr_nw : mr ≠ nw := ne_e hf_mr hf_nw (by simp)
  have n_mr_nwt : mr ≠ nwt := ne_e hf_mr hf_nwt (by simp)
  have n_mk_nw : mk ≠ nw := ne_e hf_mk hf_nw (by simp)
  have n_mk_nwt : mk ≠ nwt := ne_e hf_mk hf_nwt (by simp)
  have n_mn_nw : mn ≠ nw := ne_e hf_mn hf_nw (by simp)
  have n_mn_nwt : mn ≠ nwt := ne_e hf_mn hf_nwt (by simp)
  have n_nw_nwt : nw ≠ nwt := ne_e hf_nw hf_nwt (by simp)
  have h0f_mh := hf_mh
  have h0f_mg := hf_mg
  have h0f_mr := hf_mr
  have h0f_mk := hf_mk
  have h0f_mn := hf_mn
  have h0f_nw := hf_nw
  have h0f_nwt := hf_nwt
  refine lv_aload_n hx hb dX6_told_0 rfl (lv_at hl 0 rfl) ?_
  refine lv_iconst (v := 0) hx hb dX6_told_1 (by decide) ?_
  refine pg_put (ty := .int) (C := RX6) (T := TX6) (N := 10) hx hb hts hi_X6 tyX6 tyX6_ok nmX6 hown hK hP hN hA hS hL_mh hf_mh rfl 0 (by decide) (hts (.fieldLink RX6 41 "BarometerLeagueModel" "thrown" "I") (by decide +kernel)) (fun _ h9 => h9) rfl (by decide +kernel) rfl rfl (Nat.le_of_ble_eq_true rfl) dX6_told_2 (fun H locs hP hS => ?_)
  obtain ⟨f2, ef2⟩ : ∃ z, z = va_up f mh (eO 7 [.int 0, .ref mg, .ref mr, .int (nI n), .ref mk, .ref mn, .int (nI nv), .ref ms, .ref nw, .ref ah]) := ⟨_, rfl⟩
  replace hP : PP g L f2 H := by rw [ef2]; exact hP
  have hf_mg : f2 mg = eI g 12 gl := by rw [ef2, va_up_ne _ _ n_mh_mg.symm]; exact hf_mg
  have hf_mr : f2 mr = eI g 12 rn := by rw [ef2, va_up_ne _ _ n_mh_mr.symm]; exact hf_mr
  have hf_mk : f2 mk = eI g 8 kd := by rw [ef2, va_up_ne _ _ n_mh_mk.symm]; exact hf_mk
  have hf_mn : f2 mn = eI g 8 nu := by rw [ef2, va_up_ne _ _ n_mh_mn.symm]; exact hf_mn
  have hf_nw : f2 nw = eO 6 [.int (nI d), .int ht, .ref np, .ref nc, .ref nr, .ref nwt] := by rw [ef2, va_up_ne _ _ n_mh_nw.symm]; exact hf_nw
  have hf_nwt : f2 nwt = eI g 48 wt := by rw [ef2, va_up_ne _ _ n_mh_nwt.symm]; exact hf_nwt
  have hf_mh : f2 mh = eO 7 [.int 0, .ref mg, .ref mr, .int (nI n), .ref mk, .ref mn, .int (nI nv), .ref ms, .ref nw, .ref ah] := by rw [ef2]; exact va_up_self _ _ _
  replace hFr : Fr f f2 [mh] := by rw [ef2]; exact hFr.up (by simp)
  refine lv_aload_n hx hb dX6_told_5 rfl (lv_at hl 0 rfl) ?_
  refine lv_iload_n hx hb dX6_told_6 rfl (lv_at hl 1 rfl) ?_
  refine ro_V (As := [.int x]) (rest := []) ⟨hx, hb, hml, hown, hts⟩ (m_X6_isSign l g L f2 _ _ _ _ _ _ _ _ _ _ _ x hL_mh hf_mh (by assumption) (by assumption)) (cwV 1 hts gX6_told_X6_isSign rfl rfl rfl (by decide +kernel) ⟨Nat.le_of_ble_eq_true rfl, Nat.le_of_ble_eq_true rfl⟩) hK hP hL_mh hf_mh rfl rfl hl.1 rfl (Nat.le_of_ble_eq_true rfl) dX6_told_7 ⟨Nat.zero_le _, Nat.zero_le _⟩ (fun r7 hr7 => ?_)
  have hr7 : r7 = b2i (inB x n) := hr7
  subst hr7
  refine lv_if_eq (tgt := 31) hx hb dX6_told_10 (by decide) (fun c10 => ?_) (fun c10 => ?_)
  · skip
    refine lv_aload_n hx hb dX6_told_31 rfl (lv_at hl 0 rfl) ?_
    refine lv_iconst (v := 1) hx hb dX6_told_32 (by decide) ?_
    refine rw_V (As := [.int 1]) (rest := []) ⟨hx, hb, hml, hown, hts⟩ (m_X6_no l g L f2 _ hN _ _ _ _ _ _ _ _ _ _ _ _ hL_mh hf_mh) (cwV 1 hts gX6_told_X6_no rfl rfl rfl (by decide +kernel) ⟨Nat.le_of_ble_eq_true rfl, Nat.le_of_ble_eq_true rfl⟩) hK hP hA hA2 hS hL_mh hf_mh rfl rfl hl.1 rfl (Nat.le_of_ble_eq_true rfl) dX6_told_33 ⟨Nat.zero_le _, Nat.zero_le _⟩ (fun r33 f33 H locs hr33 hP hS => ?_)
    obtain ⟨hv33, hc33_0, hw33⟩ := hr33
    have hf_mg : f33 mg = eI g 12 gl := hw33.get hf_mg (nm_c n_mh_mg.symm (List.not_mem_nil))
    have hf_mr : f33 mr = eI g 12 rn := hw33.get hf_mr (nm_c n_mh_mr.symm (List.not_mem_nil))
    have hf_mk : f33 mk = eI g 8 kd := hw33.get hf_mk (nm_c n_mh_mk.symm (List.not_mem_nil))
    have hf_mn : f33 mn = eI g 8 nu := hw33.get hf_mn (nm_c n_mh_mn.symm (List.not_mem_nil))
    have hf_nw : f33 nw = eO 6 [.int (nI d), .int ht, .ref np, .ref nc, .ref nr, .ref nwt] := hw33.get hf_nw (nm_c n_mh_nw.symm (List.not_mem_nil))
    have hf_nwt : f33 nwt = eI g 48 wt := hw33.get hf_nwt (nm_c n_mh_nwt.symm (List.not_mem_nil))
    have hf_mh : f33 mh = eO 7 [.int 1, .ref mg, .ref mr, .int (nI n), .ref mk, .ref mn, .int (nI nv), .ref ms, .ref nw, .ref ah] := hc33_0
    replace hFr : Fr f f33 [mh] := hFr.tr hw33 (by simp)
    subst hv33
    exact hend (0) f33 _ _ _ _ (⟨Or.inl ⟨by rw [z_f c10]; rfl, hf_mh⟩, hFr⟩) hP hS rfl dX6_told_36
  · skip
    refine lv_iload_n hx hb dX6_told_13 rfl (lv_at hl 2 rfl) ?_
    refine lv_iconst (v := 0) hx hb dX6_told_14 (by decide) ?_
    refine lv_iconst (v := 3) hx hb dX6_told_15 (by decide) ?_
    refine ro_S (As := [.int y, .int 0, .int 3]) (rest := []) ⟨hx, hb, hml, hown, hts⟩ (m_X6_isIn l g L f2 y _ _ ) (va_cwS 3 hts gX6_told_X6_isIn rfl rfl rfl (by decide +kernel) ⟨Nat.le_of_ble_eq_true rfl, Nat.le_of_ble_eq_true rfl⟩) hK hP rfl hl.1 rfl (Nat.le_of_ble_eq_true rfl) dX6_told_16 ⟨Nat.zero_le _, Nat.zero_le _⟩ (fun r16 hr16 => ?_)
    have hr16 : r16 = b2i (decide (0 ≤ y ∧ y ≤ 3)) := hr16
    subst hr16
    refine lv_if_eq (tgt := 31) hx hb dX6_told_19 (by decide) (fun c19 => ?_) (fun c19 => ?_)
    · skip
      refine lv_aload_n hx hb dX6_told_31 rfl (lv_at hl 0 rfl) ?_
      refine lv_iconst (v := 1) hx hb dX6_told_32 (by decide) ?_
      refine rw_V (As := [.int 1]) (rest := []) ⟨hx, hb, hml, hown, hts⟩ (m_X6_no l g L f2 _ hN _ _ _ _ _ _ _ _ _ _ _ _ hL_mh hf_mh) (cwV 1 hts gX6_told_X6_no rfl rfl rfl (by decide +kernel) ⟨Nat.le_of_ble_eq_true rfl, Nat.le_of_ble_eq_true rfl⟩) hK hP hA hA2 hS hL_mh hf_mh rfl rfl hl.1 rfl (Nat.le_of_ble_eq_true rfl) dX6_told_33 ⟨Nat.zero_le _, Nat.zero_le _⟩ (fun r33 f33 H locs hr33 hP hS => ?_)
      obtain ⟨hv33, hc33_0, hw33⟩ := hr33
      have hf_mg : f33 mg = eI g 12 gl := hw33.get hf_mg (nm_c n_mh_mg.symm (List.not_mem_nil))
      have hf_mr : f33 mr = eI g 12 rn := hw33.get hf_mr (nm_c n_mh_mr.symm (List.not_mem_nil))
      have hf_mk : f33 mk = eI g 8 kd := hw33.get hf_mk (nm_c n_mh_mk.symm (List.not_mem_nil))
      have hf_mn : f33 mn = eI g 8 nu := hw33.get hf_mn (nm_c n_mh_mn.symm (List.not_mem_nil))
      have hf_nw : f33 nw = eO 6 [.int (nI d), .int ht, .ref np, .ref nc, .ref nr, .ref nwt] := hw33.get hf_nw (nm_c n_mh_nw.symm (List.not_mem_nil))
      have hf_nwt : f33 nwt = eI g 48 wt := hw33.get hf_nwt (nm_c n_mh_nwt.symm (List.not_mem_nil))
      have hf_mh : f33 mh = eO 7 [.int 1, .ref mg, .ref mr, .int (nI n), .ref mk, .ref mn, .int (nI nv), .ref ms, .ref nw, .ref ah] := hc33_0
      replace hFr : Fr f f33 [mh] := hFr.tr hw33 (by simp)
      subst hv33
      exact hend (0) f33 _ _ _ _ (⟨Or.inl ⟨by rw [in_f (k := 3) (by omega) c19, Bool.and_false], hf_mh⟩, hFr⟩) hP hS rfl dX6_told_36
    · skip
      obtain ⟨j, hj, rfl⟩ := inB_of (nz_t c10) (by omega)
      obtain ⟨k, hk, rfl⟩ := inB_of (in_t (k := 3) (by omega) c19) (by omega)
      refine lv_aload_n hx hb dX6_told_22 rfl (lv_at hl 0 rfl) ?_
      refine lv_iload_n hx hb dX6_told_23 rfl (lv_at hl 1 rfl) ?_
      refine lv_iload_n hx hb dX6_told_24 rfl (lv_at hl 2 rfl) ?_
      refine ro_V (As := [.int (nI j), .int (nI k)]) (rest := []) ⟨hx, hb, hml, hown, hts⟩ (m_X6_signTold l g L f2 _ _ _ _ _ _ _ _ _ _ _ _ _ _ _ _ _ _ _ _ _ _ j k hL_mh hf_mh hL_mg hf_mg hL_mr hf_mr hL_mk hf_mk hL_mn hf_mn hL_nw hf_nw hL_nwt hf_nwt hnv (by omega) hk) (cwV 2 hts gX6_told_X6_signTold rfl rfl rfl (by decide +kernel) ⟨Nat.le_of_ble_eq_true rfl, Nat.le_of_ble_eq_true rfl⟩) hK hP hL_mh hf_mh rfl rfl hl.1 rfl (Nat.le_of_ble_eq_true rfl) dX6_told_25 ⟨Nat.zero_le _, Nat.zero_le _⟩ (fun r25 hr25 => ?_)
      have hr25 : r25 = toldM kd nu gl rn wt nv j k := hr25
      subst hr25
      refine lv_goto (tgt := 36) hx hb dX6_told_28 (by decide) ?_
      exact hend (toldM kd nu gl rn wt nv j k) f2 _ _ _ _ (⟨Or.inr ⟨j, k, hj, rfl, hk, rfl, rfl, hf_mh⟩, hFr⟩) hP hS rfl dX6_told_36

set_option maxHeartbeats 4000000 in
set_option maxRecDepth 100000 in
theorem m_X6_weight (l : Launch) (g : GG) (L : List Nat) (f : Nat → va_E) (sz : Nat) (hN : L.Nodup) (mh mg mr mk mn ms ah n nv : Nat) (th : Int32) (nw np nc nr nwt d : Nat) (ht : Int32) (wt : Nat → Int32) (v x : Int32) (hL_mh : mh ∈ L) (hf_mh : f mh = eO 7 [.int th, .ref mg, .ref mr, .int (nI n), .ref mk, .ref mn, .int (nI nv), .ref ms, .ref nw, .ref ah]) (hL_nw : nw ∈ L) (hf_nw : f nw = eO 6 [.int (nI d), .int ht, .ref np, .ref nc, .ref nr, .ref nwt]) (hL_nwt : nwt ∈ L) (hf_nwt : f nwt = eI g 48 wt) (hn : n ≤ 8) (hnv : nv ≤ 6) : RW l g yX6_weight wsX6_weight 2 43 L f sz [.ref mh, .int v, .int x] (fun r f2 => (((inB v nv && inB x n) = false ∧ f2 mh = eO 7 [.int 1, .ref mg, .ref mr, .int (nI n), .ref mk, .ref mn, .int (nI nv), .ref ms, .ref nw, .ref ah]) ∨ ∃ u j, u < nv ∧ v = nI u ∧ j < n ∧ x = nI j ∧ r = wt (8 * u + j) ∧ f2 mh = eO 7 [.int 0, .ref mg, .ref mr, .int (nI n), .ref mk, .ref mn, .int (nI nv), .ref ms, .ref nw, .ref ah]) ∧ Fr f f2 [mh]) := by
  refine RW.start (cc := cX6_weight) (maxL := 3) (ret := .int) (by decide +kernel) rfl (by simp [lg_sl, Value.category]) ?_
  intro p e s m args below meth c Q ls A hx hb hml hts hown hA hA2 hS hP hK hl hend
  have hl : lv_has ls 3 [(0, .ref mh), (1, .int v), (2, .int x)] := hl
  have hi_X5 : ∀ w ∈ u_ws RX5 TX5 6, w ∈ wsX6_weight := by decide +kernel
  have hi_X6 : ∀ w ∈ u_ws RX6 TX6 10, w ∈ wsX6_weight := by decide +kernel
  have hFr : Fr f f [mh] := Fr.rf
  have n_mh_nw : mh ≠ nw := ne_e hf_mh hf_nw (by simp)
  have n_mh_nwt : mh ≠ nwt := ne_e hf_mh hf_nwt (by simp)
  have n_nw_nwt : nw ≠ nwt := ne_e hf_nw hf_nwt (by simp)
  have h0f_mh := hf_mh
  have h0f_nw := hf_nw
  have h0f_nwt := hf_nwt
  refine lv_aload_n hx hb dX6_weight_0 rfl (lv_at hl 0 rfl) ?_
  refine lv_iconst (v := 0) hx hb dX6_weight_1 (by decide) ?_
  refine pg_put (ty := .int) (C := RX6) (T := TX6) (N := 10) hx hb hts hi_X6 tyX6 tyX6_ok nmX6 hown hK hP hN hA hS hL_mh hf_mh rfl 0 (by decide) (hts (.fieldLink RX6 41 "BarometerLeagueModel" "thrown" "I") (by decide +kernel)) (fun _ h9 => h9) rfl (by decide +kernel) rfl rfl (Nat.le_of_ble_eq_true rfl) dX6_weight_2 (fun H locs hP hS => ?_)
  obtain ⟨f2, ef2⟩ : ∃ z, z = va_up f mh (eO 7 [.int 0, .ref mg, .ref mr, .int (nI n), .ref mk, .ref mn, .int (nI nv), .ref ms, .ref nw, .ref ah]) := ⟨_, rfl⟩
  replace hP : PP g L f2 H := by rw [ef2]; exact hP
  have hf_nw : f2 nw = eO 6 [.int (nI d), .int ht, .ref np, .ref nc, .ref nr, .ref nwt] := by rw [ef2, va_up_ne _ _ n_mh_nw.symm]; exact hf_nw
  have hf_nwt : f2 nwt = eI g 48 wt := by rw [ef2, va_up_ne _ _ n_mh_nwt.symm]; exact hf_nwt
  have hf_mh : f2 mh = eO 7 [.int 0, .ref mg, .ref mr, .int (nI n), .ref mk, .ref mn, .int (nI nv), .ref ms, .ref nw, .ref ah] := by rw [ef2]; exact va_up_self _ _ _
  replace hFr : Fr f f2 [mh] := by rw [ef2]; exact hFr.up (by simp)
  refine lv_aload_n hx hb dX6_weight_5 rfl (lv_at hl 0 rfl) ?_
  refine lv_iload_n hx hb dX6_weight_6 rfl (lv_at hl 1 rfl) ?_
  refine ro_V (As := [.int v]) (rest := []) ⟨hx, hb, hml, hown, hts⟩ (m_X6_isVillage l g L f2 _ _ _ _ _ _ _ _ _ _ _ v hL_mh hf_mh (by assumption) (by assumption)) (cwV 1 hts gX6_weight_X6_isVillage rfl rfl rfl (by decide +kernel) ⟨Nat.le_of_ble_eq_true rfl, Nat.le_of_ble_eq_true rfl⟩) hK hP hL_mh hf_mh rfl rfl hl.1 rfl (Nat.le_of_ble_eq_true rfl) dX6_weight_7 ⟨Nat.zero_le _, Nat.zero_le _⟩ (fun r7 hr7 => ?_)
  have hr7 : r7 = b2i (inB v nv) := hr7
  subst hr7
  refine lv_if_eq (tgt := 38) hx hb dX6_weight_10 (by decide) (fun c10 => ?_) (fun c10 => ?_)
  · skip
    refine lv_aload_n hx hb dX6_weight_38 rfl (lv_at hl 0 rfl) ?_
    refine lv_iconst (v := 1) hx hb dX6_weight_39 (by decide) ?_
    refine rw_V (As := [.int 1]) (rest := []) ⟨hx, hb, hml, hown, hts⟩ (m_X6_no l g L f2 _ hN _ _ _ _ _ _ _ _ _ _ _ _ hL_mh hf_mh) (cwV 1 hts gX6_weight_X6_no rfl rfl rfl (by decide +kernel) ⟨Nat.le_of_ble_eq_true rfl, Nat.le_of_ble_eq_true rfl⟩) hK hP hA hA2 hS hL_mh hf_mh rfl rfl hl.1 rfl (Nat.le_of_ble_eq_true rfl) dX6_weight_40 ⟨Nat.zero_le _, Nat.zero_le _⟩ (fun r40 f40 H locs hr40 hP hS => ?_)
    obtain ⟨hv40, hc40_0, hw40⟩ := hr40
    have hf_nw : f40 nw = eO 6 [.int (nI d), .int ht, .ref np, .ref nc, .ref nr, .ref nwt] := hw40.get hf_nw (nm_c n_mh_nw.symm (List.not_mem_nil))
    have hf_nwt : f40 nwt = eI g 48 wt := hw40.get hf_nwt (nm_c n_mh_nwt.symm (List.not_mem_nil))
    have hf_mh : f40 mh = eO 7 [.int 1, .ref mg, .ref mr, .int (nI n), .ref mk, .ref mn, .int (nI nv), .ref ms, .ref nw, .ref ah] := hc40_0
    replace hFr : Fr f f40 [mh] := hFr.tr hw40 (by simp)
    subst hv40
    exact hend (0) f40 _ _ _ _ (⟨Or.inl ⟨by rw [z_f c10]; rfl, hf_mh⟩, hFr⟩) hP hS rfl dX6_weight_43
  · skip
    refine lv_aload_n hx hb dX6_weight_13 rfl (lv_at hl 0 rfl) ?_
    refine lv_iload_n hx hb dX6_weight_14 rfl (lv_at hl 2 rfl) ?_
    refine ro_V (As := [.int x]) (rest := []) ⟨hx, hb, hml, hown, hts⟩ (m_X6_isSign l g L f2 _ _ _ _ _ _ _ _ _ _ _ x hL_mh hf_mh (by assumption) (by assumption)) (cwV 1 hts gX6_weight_X6_isSign rfl rfl rfl (by decide +kernel) ⟨Nat.le_of_ble_eq_true rfl, Nat.le_of_ble_eq_true rfl⟩) hK hP hL_mh hf_mh rfl rfl hl.1 rfl (Nat.le_of_ble_eq_true rfl) dX6_weight_15 ⟨Nat.zero_le _, Nat.zero_le _⟩ (fun r15 hr15 => ?_)
    have hr15 : r15 = b2i (inB x n) := hr15
    subst hr15
    refine lv_if_eq (tgt := 38) hx hb dX6_weight_18 (by decide) (fun c18 => ?_) (fun c18 => ?_)
    · skip
      refine lv_aload_n hx hb dX6_weight_38 rfl (lv_at hl 0 rfl) ?_
      refine lv_iconst (v := 1) hx hb dX6_weight_39 (by decide) ?_
      refine rw_V (As := [.int 1]) (rest := []) ⟨hx, hb, hml, hown, hts⟩ (m_X6_no l g L f2 _ hN _ _ _ _ _ _ _ _ _ _ _ _ hL_mh hf_mh) (cwV 1 hts gX6_weight_X6_no rfl rfl rfl (by decide +kernel) ⟨Nat.le_of_ble_eq_true rfl, Nat.le_of_ble_eq_true rfl⟩) hK hP hA hA2 hS hL_mh hf_mh rfl rfl hl.1 rfl (Nat.le_of_ble_eq_true rfl) dX6_weight_40 ⟨Nat.zero_le _, Nat.zero_le _⟩ (fun r40 f40 H locs hr40 hP hS => ?_)
      obtain ⟨hv40, hc40_0, hw40⟩ := hr40
      have hf_nw : f40 nw = eO 6 [.int (nI d), .int ht, .ref np, .ref nc, .ref nr, .ref nwt] := hw40.get hf_nw (nm_c n_mh_nw.symm (List.not_mem_nil))
      have hf_nwt : f40 nwt = eI g 48 wt := hw40.get hf_nwt (nm_c n_mh_nwt.symm (List.not_mem_nil))
      have hf_mh : f40 mh = eO 7 [.int 1, .ref mg, .ref mr, .int (nI n), .ref mk, .ref mn, .int (nI nv), .ref ms, .ref nw, .ref ah] := hc40_0
      replace hFr : Fr f f40 [mh] := hFr.tr hw40 (by simp)
      subst hv40
      exact hend (0) f40 _ _ _ _ (⟨Or.inl ⟨by rw [z_f c18, Bool.and_false], hf_mh⟩, hFr⟩) hP hS rfl dX6_weight_43
    · skip
      obtain ⟨u, hu, rfl⟩ := inB_of (nz_t c10) (by omega)
      obtain ⟨j, hj, rfl⟩ := inB_of (nz_t c18) (by omega)
      refine lv_aload_n hx hb dX6_weight_21 rfl (lv_at hl 0 rfl) ?_
      refine pg_get (C := RX6) (T := TX6) (N := 10) hx hb hts hi_X6 hown hK hP hL_mh hf_mh rfl 8 (by decide) (hts (.fieldLink RX6 28 "BarometerLeagueModel" "now" "LBarometerLeagueModel$State;") (by decide +kernel)) (fun _ h9 => h9) rfl dX6_weight_22 ?_
      refine pg_getN (C := RX5) (T := TX5) (N := 6) hx hb hts hi_X5 hown hK hP hL_nw hf_nw rfl 5 (by decide) (hK.nest 12 rfl) (fun _ h9 => h9) rfl dX6_weight_25 ?_
      refine lv_bipush (v := 8) hx hb dX6_weight_28 (by decide) ?_
      refine lv_iload_n hx hb dX6_weight_30 rfl (lv_at hl 1 rfl) ?_
      refine lv_imul hx hb dX6_weight_31 ?_
      refine lv_topi (fun v31 ev31 => ?_)
      refine lv_iload_n hx hb dX6_weight_32 rfl (lv_at hl 2 rfl) ?_
      refine lv_iadd hx hb dX6_weight_33 ?_
      refine lv_topi (fun v33 ev33 => ?_)
      refine pn_iald (j := 8 * u + j) hx hb hK hP hL_nwt hf_nwt (ev33.trans (nat_add (ev31.trans (nat_mul rfl rfl)) rfl)) (by omega) (Nat.lt_of_lt_of_le (m := 100) (by omega) (by omega)) dX6_weight_34 ?_
      refine lv_goto (tgt := 43) hx hb dX6_weight_35 (by decide) ?_
      exact hend (wt (8 * u + j)) f2 _ _ _ _ (⟨Or.inr ⟨u, j, hu, rfl, hj, rfl, rfl, hf_mh⟩, hFr⟩) hP hS rfl dX6_weight_43

set_option maxHeartbeats 4000000 in
set_option maxRecDepth 100000 in
theorem m_X6_about (l : Launch) (g : GG) (L : List Nat) (f : Nat → va_E) (sz : Nat) (hN : L.Nodup) (mh mg mr mk mn ms ah n nv : Nat) (th : Int32) (gl rn kd nu sd : Nat → Int32) (nw np nc nr nwt d : Nat) (ht : Int32) (pt co ro wt : Nat → Int32) (v x : Int32) (hL_mh : mh ∈ L) (hf_mh : f mh = eO 7 [.int th, .ref mg, .ref mr, .int (nI n), .ref mk, .ref mn, .int (nI nv), .ref ms, .ref nw, .ref ah]) (hL_mg : mg ∈ L) (hf_mg : f mg = eI g 12 gl) (hL_mr : mr ∈ L) (hf_mr : f mr = eI g 12 rn) (hL_mk : mk ∈ L) (hf_mk : f mk = eI g 8 kd) (hL_mn : mn ∈ L) (hf_mn : f mn = eI g 8 nu) (hL_ms : ms ∈ L) (hf_ms : f ms = eI g 8 sd) (hL_nw : nw ∈ L) (hf_nw : f nw = eO 6 [.int (nI d), .int ht, .ref np, .ref nc, .ref nr, .ref nwt]) (hL_np : np ∈ L) (hf_np : f np = eI g 6 pt) (hL_nc : nc ∈ L) (hf_nc : f nc = eI g 6 co) (hL_nr : nr ∈ L) (hf_nr : f nr = eI g 6 ro) (hL_nwt : nwt ∈ L) (hf_nwt : f nwt = eI g 48 wt) (n_mk_ms : mk ≠ ms) (n_mn_ms : mn ≠ ms) (hn : n ≤ 8) (hnv : nv ≤ 6) (hd : d < 2 ^ 30) : RW l g yX6_about wsX6_about 3 68 L f sz [.ref mh, .int v, .int x] (fun r f2 => (((inB v nv && inB x 7) = false ∧ f2 mh = eO 7 [.int 1, .ref mg, .ref mr, .int (nI n), .ref mk, .ref mn, .int (nI nv), .ref ms, .ref nw, .ref ah] ∧ f2 ms = eI g 8 sd) ∨ ∃ u k, u < nv ∧ v = nI u ∧ k < 7 ∧ x = nI k ∧ r = aboutM (sdM kd nu gl rn n d sd) pt co ro wt n nv u k ∧ f2 mh = eO 7 [.int 0, .ref mg, .ref mr, .int (nI n), .ref mk, .ref mn, .int (nI nv), .ref ms, .ref nw, .ref ah] ∧ f2 ms = eI g 8 (sdM kd nu gl rn n d sd)) ∧ Fr f f2 [mh, ms]) := by
  refine RW.start (cc := cX6_about) (maxL := 3) (ret := .int) (by decide +kernel) rfl (by simp [lg_sl, Value.category]) ?_
  intro p e s m args below meth c Q ls A hx hb hml hts hown hA hA2 hS hP hK hl hend
  have hl : lv_has ls 3 [(0, .ref mh), (1, .int v), (2, .int x)] := hl
  have hi_X6 : ∀ w ∈ u_ws RX6 TX6 10, w ∈ wsX6_about := by decide +kernel
  have hFr : Fr f f [mh, ms] := Fr.rf
  have n_mh_mg : mh ≠ mg := ne_e hf_mh hf_mg (by simp)
  have n_mh_mr : mh ≠ mr := ne_e hf_mh hf_mr (by simp)
  have n_mh_mk : mh ≠ mk := ne_e hf_mh hf_mk (by simp)
  have n_mh_mn : mh ≠ mn := ne_e hf_mh hf_mn (by simp)
  have n_mh_ms : mh ≠ ms := ne_e hf_mh hf_ms (by simp)
  have n_mh_nw : mh ≠ nw := ne_e hf_mh hf_nw (by simp)
  have n_mh_np : mh ≠ np := ne_e hf_mh hf_np (by simp)
  have n_mh_nc : mh ≠ nc := ne_e hf_mh hf_nc (by simp)
  have n_mh_nr : mh ≠ nr := ne_e hf_mh hf_nr (by simp)
  have n_mh_nwt : mh ≠ nwt := ne_e hf_mh hf_nwt (by simp)
  have n_mg_mk : mg ≠ mk := ne_e hf_mg hf_mk (by simp)
  have n_mg_mn : mg ≠ mn := ne_e hf_mg hf_mn (by simp)
  have n_mg_ms : mg ≠ ms := ne_e hf_mg hf_ms (by simp)
  have n_mg_nw : mg ≠ nw := ne_e hf_mg hf_nw (by simp)
  have n_mg_np : mg ≠ np := ne_e hf_mg hf_np (by simp)
  have n_mg_nc : mg ≠ nc := ne_e hf_mg hf_nc (by simp)
  have n_mg_nr : mg ≠ nr := ne_e hf_mg hf_nr (by simp)
  have n_mg_nwt : mg ≠ nwt := ne_e hf_mg hf_nwt (by simp)
  have n_mr_mk : mr ≠ mk := ne_e hf_mr hf_mk (by simp)
  have n_mr_mn : mr ≠ mn := ne_e hf_mr hf_mn (by simp)
  have n_mr_ms : mr ≠ ms := ne_e hf_mr hf_ms (by simp)
  have n_mr_nw : mr ≠ nw := ne_e hf_mr hf_nw (by simp)
  have n_mr_np : mr ≠ np := ne_e hf_mr hf_np (by simp)
  have n_mr_nc : mr ≠ nc := ne_e hf_mr hf_nc (by simp)
  have n_mr_nr : mr ≠ nr := ne_e hf_mr hf_nr (by simp)
  have n_mr_nwt : mr ≠ nwt := ne_e hf_mr hf_nwt (by simp)
  have n_mk_nw : mk ≠ nw := ne_e hf_mk hf_nw (by simp)
  have n_mk_np : mk ≠ np := ne_e hf_mk hf_np (by simp)
  have n_mk_nc : mk ≠ nc := ne_e hf_mk hf_nc (by simp)
  have n_mk_nr : mk ≠ nr := ne_e hf_mk hf_nr (by simp)
  have n_mk_nwt : mk ≠ nwt := ne_e hf_mk hf_nwt (by simp)
  have n_mn_nw : mn ≠ nw := ne_e hf_mn hf_nw (by simp)
  have n_mn_np : mn ≠ np := ne_e hf_mn hf_np (by simp)
  have n_mn_nc : mn ≠ nc := ne_e hf_mn hf_nc (by simp)
  have n_mn_nr : mn ≠ nr := ne_e hf_mn hf_nr (by simp)
  have n_mn_nwt : mn ≠ nwt := ne_e hf_mn hf_nwt (by simp)
  have n_ms_nw : ms ≠ nw := ne_e hf_ms hf_nw (by simp)
  have n_ms_np : ms ≠ np := ne_e hf_ms hf_np (by simp)
  have n_ms_nc : ms ≠ nc := ne_e hf_ms hf_nc (by simp)
  have n_ms_nr : ms ≠ nr := ne_e hf_ms hf_nr (by simp)
  have n_ms_nwt : ms ≠ nwt := ne_e hf_ms hf_nwt (by simp)
  have n_nw_np : nw ≠ np := ne_e hf_nw hf_np (by simp)
  have n_nw_nc : nw ≠ nc := ne_e hf_nw hf_nc (by simp)
  have n_nw_nr : nw ≠ nr := ne_e hf_nw hf_nr (by simp)
  have n_nw_nwt : nw ≠ nwt := ne_e hf_nw hf_nwt (by simp)
  have n_np_nwt : np ≠ nwt := ne_e hf_np hf_nwt (by simp)
  have n_nc_nwt : nc ≠ nwt := ne_e hf_nc hf_nwt (by simp)
  have n_nr_nwt : nr ≠ nwt := ne_e hf_nr hf_nwt (by simp)
  have h0f_mh := hf_mh
  have h0f_mg := hf_mg
  have h0f_mr := hf_mr
  have h0f_mk := hf_mk
  have h0f_mn := hf_mn
  have h0f_ms := hf_ms
  have h0f_nw := hf_nw
  have h0f_np := hf_np
  have h0f_nc := hf_nc
  have h0f_nr := hf_nr
  have h0f_nwt := hf_nwt
  refine lv_aload_n hx hb dX6_about_0 rfl (lv_at hl 0 rfl) ?_
  refine lv_iconst (v := 0) hx hb dX6_about_1 (by decide) ?_
  refine pg_put (ty := .int) (C := RX6) (T := TX6) (N := 10) hx hb hts hi_X6 tyX6 tyX6_ok nmX6 hown hK hP hN hA hS hL_mh hf_mh rfl 0 (by decide) (hts (.fieldLink RX6 41 "BarometerLeagueModel" "thrown" "I") (by decide +kernel)) (fun _ h9 => h9) rfl (by decide +kernel) rfl rfl (Nat.le_of_ble_eq_true rfl) dX6_about_2 (fun H locs hP hS => ?_)
  obtain ⟨f2, ef2⟩ : ∃ z, z = va_up f mh (eO 7 [.int 0, .ref mg, .ref mr, .int (nI n), .ref mk, .ref mn, .int (nI nv), .ref ms, .ref nw, .ref ah]) := ⟨_, rfl⟩
  replace hP : PP g L f2 H := by rw [ef2]; exact hP
  have hf_mg : f2 mg = eI g 12 gl := by rw [ef2, va_up_ne _ _ n_mh_mg.symm]; exact hf_mg
  have hf_mr : f2 mr = eI g 12 rn := by rw [ef2, va_up_ne _ _ n_mh_mr.symm]; exact hf_mr
  have hf_mk : f2 mk = eI g 8 kd := by rw [ef2, va_up_ne _ _ n_mh_mk.symm]; exact hf_mk
  have hf_mn : f2 mn = eI g 8 nu := by rw [ef2, va_up_ne _ _ n_mh_mn.symm]; exact hf_mn
  have hf_ms : f2 ms = eI g 8 sd := by rw [ef2, va_up_ne _ _ n_mh_ms.symm]; exact hf_ms
  have hf_nw : f2 nw = eO 6 [.int (nI d), .int ht, .ref np, .ref nc, .ref nr, .ref nwt] := by rw [ef2, va_up_ne _ _ n_mh_nw.symm]; exact hf_nw
  have hf_np : f2 np = eI g 6 pt := by rw [ef2, va_up_ne _ _ n_mh_np.symm]; exact hf_np
  have hf_nc : f2 nc = eI g 6 co := by rw [ef2, va_up_ne _ _ n_mh_nc.symm]; exact hf_nc
  have hf_nr : f2 nr = eI g 6 ro := by rw [ef2, va_up_ne _ _ n_mh_nr.symm]; exact hf_nr
  have hf_nwt : f2 nwt = eI g 48 wt := by rw [ef2, va_up_ne _ _ n_mh_nwt.symm]; exact hf_nwt
  have hf_mh : f2 mh = eO 7 [.int 0, .ref mg, .ref mr, .int (nI n), .ref mk, .ref mn, .int (nI nv), .ref ms, .ref nw, .ref ah] := by rw [ef2]; exact va_up_self _ _ _
  replace hFr : Fr f f2 [mh, ms] := by rw [ef2]; exact hFr.up (by simp)
  refine lv_aload_n hx hb dX6_about_5 rfl (lv_at hl 0 rfl) ?_
  refine lv_iload_n hx hb dX6_about_6 rfl (lv_at hl 1 rfl) ?_
  refine ro_V (As := [.int v]) (rest := []) ⟨hx, hb, hml, hown, hts⟩ (m_X6_isVillage l g L f2 _ _ _ _ _ _ _ _ _ _ _ v hL_mh hf_mh (by assumption) (by assumption)) (cwV 1 hts gX6_about_X6_isVillage rfl rfl rfl (by decide +kernel) ⟨Nat.le_of_ble_eq_true rfl, Nat.le_of_ble_eq_true rfl⟩) hK hP hL_mh hf_mh rfl rfl hl.1 rfl (Nat.le_of_ble_eq_true rfl) dX6_about_7 ⟨Nat.zero_le _, Nat.zero_le _⟩ (fun r7 hr7 => ?_)
  have hr7 : r7 = b2i (inB v nv) := hr7
  subst hr7
  refine lv_if_eq (tgt := 32) hx hb dX6_about_10 (by decide) (fun c10 => ?_) (fun c10 => ?_)
  · skip
    refine lv_aload_n hx hb dX6_about_32 rfl (lv_at hl 0 rfl) ?_
    refine lv_iconst (v := 1) hx hb dX6_about_33 (by decide) ?_
    refine rw_V (As := [.int 1]) (rest := []) ⟨hx, hb, hml, hown, hts⟩ (m_X6_no l g L f2 _ hN _ _ _ _ _ _ _ _ _ _ _ _ hL_mh hf_mh) (cwV 1 hts gX6_about_X6_no rfl rfl rfl (by decide +kernel) ⟨Nat.le_of_ble_eq_true rfl, Nat.le_of_ble_eq_true rfl⟩) hK hP hA hA2 hS hL_mh hf_mh rfl rfl hl.1 rfl (Nat.le_of_ble_eq_true rfl) dX6_about_34 ⟨Nat.zero_le _, Nat.zero_le _⟩ (fun r34 f34 H locs hr34 hP hS => ?_)
    obtain ⟨hv34, hc34_0, hw34⟩ := hr34
    have hf_mg : f34 mg = eI g 12 gl := hw34.get hf_mg (nm_c n_mh_mg.symm (List.not_mem_nil))
    have hf_mr : f34 mr = eI g 12 rn := hw34.get hf_mr (nm_c n_mh_mr.symm (List.not_mem_nil))
    have hf_mk : f34 mk = eI g 8 kd := hw34.get hf_mk (nm_c n_mh_mk.symm (List.not_mem_nil))
    have hf_mn : f34 mn = eI g 8 nu := hw34.get hf_mn (nm_c n_mh_mn.symm (List.not_mem_nil))
    have hf_ms : f34 ms = eI g 8 sd := hw34.get hf_ms (nm_c n_mh_ms.symm (List.not_mem_nil))
    have hf_nw : f34 nw = eO 6 [.int (nI d), .int ht, .ref np, .ref nc, .ref nr, .ref nwt] := hw34.get hf_nw (nm_c n_mh_nw.symm (List.not_mem_nil))
    have hf_np : f34 np = eI g 6 pt := hw34.get hf_np (nm_c n_mh_np.symm (List.not_mem_nil))
    have hf_nc : f34 nc = eI g 6 co := hw34.get hf_nc (nm_c n_mh_nc.symm (List.not_mem_nil))
    have hf_nr : f34 nr = eI g 6 ro := hw34.get hf_nr (nm_c n_mh_nr.symm (List.not_mem_nil))
    have hf_nwt : f34 nwt = eI g 48 wt := hw34.get hf_nwt (nm_c n_mh_nwt.symm (List.not_mem_nil))
    have hf_mh : f34 mh = eO 7 [.int 1, .ref mg, .ref mr, .int (nI n), .ref mk, .ref mn, .int (nI nv), .ref ms, .ref nw, .ref ah] := hc34_0
    replace hFr : Fr f f34 [mh, ms] := hFr.tr hw34 (by simp)
    subst hv34
    exact hend (0) f34 _ _ _ _ (⟨Or.inl ⟨by rw [z_f c10]; rfl, hf_mh, hf_ms⟩, hFr⟩) hP hS rfl dX6_about_37
  · skip
    refine lv_iload_n hx hb dX6_about_13 rfl (lv_at hl 2 rfl) ?_
    refine lv_iconst (v := 0) hx hb dX6_about_14 (by decide) ?_
    refine lv_bipush (v := 6) hx hb dX6_about_15 (by decide) ?_
    refine ro_S (As := [.int x, .int 0, .int 6]) (rest := []) ⟨hx, hb, hml, hown, hts⟩ (m_X6_isIn l g L f2 x _ _ ) (va_cwS 3 hts gX6_about_X6_isIn rfl rfl rfl (by decide +kernel) ⟨Nat.le_of_ble_eq_true rfl, Nat.le_of_ble_eq_true rfl⟩) hK hP rfl hl.1 rfl (Nat.le_of_ble_eq_true rfl) dX6_about_17 ⟨Nat.zero_le _, Nat.zero_le _⟩ (fun r17 hr17 => ?_)
    have hr17 : r17 = b2i (decide (0 ≤ x ∧ x ≤ 6)) := hr17
    subst hr17
    refine lv_if_eq (tgt := 32) hx hb dX6_about_20 (by decide) (fun c20 => ?_) (fun c20 => ?_)
    · skip
      refine lv_aload_n hx hb dX6_about_32 rfl (lv_at hl 0 rfl) ?_
      refine lv_iconst (v := 1) hx hb dX6_about_33 (by decide) ?_
      refine rw_V (As := [.int 1]) (rest := []) ⟨hx, hb, hml, hown, hts⟩ (m_X6_no l g L f2 _ hN _ _ _ _ _ _ _ _ _ _ _ _ hL_mh hf_mh) (cwV 1 hts gX6_about_X6_no rfl rfl rfl (by decide +kernel) ⟨Nat.le_of_ble_eq_true rfl, Nat.le_of_ble_eq_true rfl⟩) hK hP hA hA2 hS hL_mh hf_mh rfl rfl hl.1 rfl (Nat.le_of_ble_eq_true rfl) dX6_about_34 ⟨Nat.zero_le _, Nat.zero_le _⟩ (fun r34 f34 H locs hr34 hP hS => ?_)
      obtain ⟨hv34, hc34_0, hw34⟩ := hr34
      have hf_mg : f34 mg = eI g 12 gl := hw34.get hf_mg (nm_c n_mh_mg.symm (List.not_mem_nil))
      have hf_mr : f34 mr = eI g 12 rn := hw34.get hf_mr (nm_c n_mh_mr.symm (List.not_mem_nil))
      have hf_mk : f34 mk = eI g 8 kd := hw34.get hf_mk (nm_c n_mh_mk.symm (List.not_mem_nil))
      have hf_mn : f34 mn = eI g 8 nu := hw34.get hf_mn (nm_c n_mh_mn.symm (List.not_mem_nil))
      have hf_ms : f34 ms = eI g 8 sd := hw34.get hf_ms (nm_c n_mh_ms.symm (List.not_mem_nil))
      have hf_nw : f34 nw = eO 6 [.int (nI d), .int ht, .ref np, .ref nc, .ref nr, .ref nwt] := hw34.get hf_nw (nm_c n_mh_nw.symm (List.not_mem_nil))
      have hf_np : f34 np = eI g 6 pt := hw34.get hf_np (nm_c n_mh_np.symm (List.not_mem_nil))
      have hf_nc : f34 nc = eI g 6 co := hw34.get hf_nc (nm_c n_mh_nc.symm (List.not_mem_nil))
      have hf_nr : f34 nr = eI g 6 ro := hw34.get hf_nr (nm_c n_mh_nr.symm (List.not_mem_nil))
      have hf_nwt : f34 nwt = eI g 48 wt := hw34.get hf_nwt (nm_c n_mh_nwt.symm (List.not_mem_nil))
      have hf_mh : f34 mh = eO 7 [.int 1, .ref mg, .ref mr, .int (nI n), .ref mk, .ref mn, .int (nI nv), .ref ms, .ref nw, .ref ah] := hc34_0
      replace hFr : Fr f f34 [mh, ms] := hFr.tr hw34 (by simp)
      subst hv34
      exact hend (0) f34 _ _ _ _ (⟨Or.inl ⟨by rw [in_f (k := 6) (by omega) c20, Bool.and_false], hf_mh, hf_ms⟩, hFr⟩) hP hS rfl dX6_about_37
    · skip
      obtain ⟨u, hu, rfl⟩ := inB_of (nz_t c10) (by omega)
      obtain ⟨k, hk, rfl⟩ := inB_of (in_t (k := 6) (by omega) c20) (by omega)
      refine lv_aload_n hx hb dX6_about_23 rfl (lv_at hl 0 rfl) ?_
      refine lv_iload_n hx hb dX6_about_24 rfl (lv_at hl 1 rfl) ?_
      refine lv_iload_n hx hb dX6_about_25 rfl (lv_at hl 2 rfl) ?_
      refine rw_V (As := [.int (nI u), .int (nI k)]) (rest := []) ⟨hx, hb, hml, hown, hts⟩ (m_X6_villageTold l g L f2 _ hN _ _ _ _ _ _ _ _ _ _ _ _ _ _ _ _ _ _ _ _ _ _ _ _ _ _ u k hL_mh hf_mh hL_mg hf_mg hL_mr hf_mr hL_mk hf_mk hL_mn hf_mn hL_ms hf_ms hL_nw hf_nw hL_np hf_np hL_nc hf_nc hL_nr hf_nr hL_nwt hf_nwt n_mk_ms n_mn_ms hn hnv hd (by omega) hk) (cwV 2 hts gX6_about_X6_villageTold rfl rfl rfl (by decide +kernel) ⟨Nat.le_of_ble_eq_true rfl, Nat.le_of_ble_eq_true rfl⟩) hK hP hA hA2 hS hL_mh hf_mh rfl rfl hl.1 rfl (Nat.le_of_ble_eq_true rfl) dX6_about_26 ⟨Nat.zero_le _, Nat.zero_le _⟩ (fun r26 f26 H locs hr26 hP hS => ?_)
      obtain ⟨hv26, hc26_0, hw26⟩ := hr26
      have hf_mh : f26 mh = eO 7 [.int 0, .ref mg, .ref mr, .int (nI n), .ref mk, .ref mn, .int (nI nv), .ref ms, .ref nw, .ref ah] := hw26.get hf_mh (nm_c n_mh_ms (List.not_mem_nil))
      have hf_mg : f26 mg = eI g 12 gl := hw26.get hf_mg (nm_c n_mg_ms (List.not_mem_nil))
      have hf_mr : f26 mr = eI g 12 rn := hw26.get hf_mr (nm_c n_mr_ms (List.not_mem_nil))
      have hf_mk : f26 mk = eI g 8 kd := hw26.get hf_mk (nm_c n_mk_ms (List.not_mem_nil))
      have hf_mn : f26 mn = eI g 8 nu := hw26.get hf_mn (nm_c n_mn_ms (List.not_mem_nil))
      have hf_nw : f26 nw = eO 6 [.int (nI d), .int ht, .ref np, .ref nc, .ref nr, .ref nwt] := hw26.get hf_nw (nm_c n_ms_nw.symm (List.not_mem_nil))
      have hf_np : f26 np = eI g 6 pt := hw26.get hf_np (nm_c n_ms_np.symm (List.not_mem_nil))
      have hf_nc : f26 nc = eI g 6 co := hw26.get hf_nc (nm_c n_ms_nc.symm (List.not_mem_nil))
      have hf_nr : f26 nr = eI g 6 ro := hw26.get hf_nr (nm_c n_ms_nr.symm (List.not_mem_nil))
      have hf_nwt : f26 nwt = eI g 48 wt := hw26.get hf_nwt (nm_c n_ms_nwt.symm (List.not_mem_nil))
      have hf_ms : f26 ms = eI g 8 (sdM kd nu gl rn n d sd) := hc26_0
      replace hFr : Fr f f26 [mh, ms] := hFr.tr hw26 (by simp)
      refine lv_goto (tgt := 37) hx hb dX6_about_29 (by decide) ?_
      exact hend (r26) f26 _ _ _ _ (⟨Or.inr ⟨u, k, hu, rfl, hk, rfl, hv26, hf_mh, hf_ms⟩, hFr⟩) hP hS rfl dX6_about_37

set_option maxHeartbeats 4000000 in
set_option maxRecDepth 100000 in
theorem m_X6_count (l : Launch) (g : GG) (L : List Nat) (f : Nat → va_E) (sz : Nat) (hN : L.Nodup) (mh mg mr mk mn ms ah n nv : Nat) (th : Int32) (gl rn kd nu sd : Nat → Int32) (nw np nc nr nwt d : Nat) (ht : Int32) (pt co ro wt : Nat → Int32) (x : Int32) (hL_mh : mh ∈ L) (hf_mh : f mh = eO 7 [.int th, .ref mg, .ref mr, .int (nI n), .ref mk, .ref mn, .int (nI nv), .ref ms, .ref nw, .ref ah]) (hL_mg : mg ∈ L) (hf_mg : f mg = eI g 12 gl) (hL_mr : mr ∈ L) (hf_mr : f mr = eI g 12 rn) (hL_mk : mk ∈ L) (hf_mk : f mk = eI g 8 kd) (hL_mn : mn ∈ L) (hf_mn : f mn = eI g 8 nu) (hL_ms : ms ∈ L) (hf_ms : f ms = eI g 8 sd) (hL_nw : nw ∈ L) (hf_nw : f nw = eO 6 [.int (nI d), .int ht, .ref np, .ref nc, .ref nr, .ref nwt]) (hL_np : np ∈ L) (hf_np : f np = eI g 6 pt) (hL_nc : nc ∈ L) (hf_nc : f nc = eI g 6 co) (hL_nwt : nwt ∈ L) (hf_nwt : f nwt = eI g 48 wt) (n_mk_ms : mk ≠ ms) (n_mn_ms : mn ≠ ms) (hn : n ≤ 8) (hnv : nv ≤ 6) (hd : d < 2 ^ 30) : RW l g yX6_count wsX6_count 4 93 L f sz [.ref mh, .int x] (fun r f2 => ((inB x 7 = false ∧ f2 mh = eO 7 [.int 1, .ref mg, .ref mr, .int (nI n), .ref mk, .ref mn, .int (nI nv), .ref ms, .ref nw, .ref ah] ∧ f2 ms = eI g 8 sd) ∨ ∃ k, k < 7 ∧ x = nI k ∧ r = countM (sdM kd nu gl rn n d sd) pt co rn wt n nv d k ∧ f2 mh = eO 7 [.int 0, .ref mg, .ref mr, .int (nI n), .ref mk, .ref mn, .int (nI nv), .ref ms, .ref nw, .ref ah] ∧ f2 ms = eI g 8 (if k = 5 then sdM kd nu gl rn n d sd else sd)) ∧ Fr f f2 [mh, ms]) := by
  refine RW.start (cc := cX6_count) (maxL := 2) (ret := .int) (by decide +kernel) rfl (by simp [lg_sl, Value.category]) ?_
  intro p e s m args below meth c Q ls A hx hb hml hts hown hA hA2 hS hP hK hl hend
  have hl : lv_has ls 2 [(0, .ref mh), (1, .int x)] := hl
  have hi_X6 : ∀ w ∈ u_ws RX6 TX6 10, w ∈ wsX6_count := by decide +kernel
  have hFr : Fr f f [mh, ms] := Fr.rf
  have n_mh_mg : mh ≠ mg := ne_e hf_mh hf_mg (by simp)
  have n_mh_mr : mh ≠ mr := ne_e hf_mh hf_mr (by simp)
  have n_mh_mk : mh ≠ mk := ne_e hf_mh hf_mk (by simp)
  have n_mh_mn : mh ≠ mn := ne_e hf_mh hf_mn (by simp)
  have n_mh_ms : mh ≠ ms := ne_e hf_mh hf_ms (by simp)
  have n_mh_nw : mh ≠ nw := ne_e hf_mh hf_nw (by simp)
  have n_mh_np : mh ≠ np := ne_e hf_mh hf_np (by simp)
  have n_mh_nc : mh ≠ nc := ne_e hf_mh hf_nc (by simp)
  have n_mh_nwt : mh ≠ nwt := ne_e hf_mh hf_nwt (by simp)
  have n_mg_mk : mg ≠ mk := ne_e hf_mg hf_mk (by simp)
  have n_mg_mn : mg ≠ mn := ne_e hf_mg hf_mn (by simp)
  have n_mg_ms : mg ≠ ms := ne_e hf_mg hf_ms (by simp)
  have n_mg_nw : mg ≠ nw := ne_e hf_mg hf_nw (by simp)
  have n_mg_np : mg ≠ np := ne_e hf_mg hf_np (by simp)
  have n_mg_nc : mg ≠ nc := ne_e hf_mg hf_nc (by simp)
  have n_mg_nwt : mg ≠ nwt := ne_e hf_mg hf_nwt (by simp)
  have n_mr_mk : mr ≠ mk := ne_e hf_mr hf_mk (by simp)
  have n_mr_mn : mr ≠ mn := ne_e hf_mr hf_mn (by simp)
  have n_mr_ms : mr ≠ ms := ne_e hf_mr hf_ms (by simp)
  have n_mr_nw : mr ≠ nw := ne_e hf_mr hf_nw (by simp)
  have n_mr_np : mr ≠ np := ne_e hf_mr hf_np (by simp)
  have n_mr_nc : mr ≠ nc := ne_e hf_mr hf_nc (by simp)
  have n_mr_nwt : mr ≠ nwt := ne_e hf_mr hf_nwt (by simp)
  have n_mk_nw : mk ≠ nw := ne_e hf_mk hf_nw (by simp)
  have n_mk_np : mk ≠ np := ne_e hf_mk hf_np (by simp)
  have n_mk_nc : mk ≠ nc := ne_e hf_mk hf_nc (by simp)
  have n_mk_nwt : mk ≠ nwt := ne_e hf_mk hf_nwt (by simp)
  have n_mn_nw : mn ≠ nw := ne_e hf_mn hf_nw (by simp)
  have n_mn_np : mn ≠ np := ne_e hf_mn hf_np (by simp)
  have n_mn_nc : mn ≠ nc := ne_e hf_mn hf_nc (by simp)
  have n_mn_nwt : mn ≠ nwt := ne_e hf_mn hf_nwt (by simp)
  have n_ms_nw : ms ≠ nw := ne_e hf_ms hf_nw (by simp)
  have n_ms_np : ms ≠ np := ne_e hf_ms hf_np (by simp)
  have n_ms_nc : ms ≠ nc := ne_e hf_ms hf_nc (by simp)
  have n_ms_nwt : ms ≠ nwt := ne_e hf_ms hf_nwt (by simp)
  have n_nw_np : nw ≠ np := ne_e hf_nw hf_np (by simp)
  have n_nw_nc : nw ≠ nc := ne_e hf_nw hf_nc (by simp)
  have n_nw_nwt : nw ≠ nwt := ne_e hf_nw hf_nwt (by simp)
  have n_np_nwt : np ≠ nwt := ne_e hf_np hf_nwt (by simp)
  have n_nc_nwt : nc ≠ nwt := ne_e hf_nc hf_nwt (by simp)
  have h0f_mh := hf_mh
  have h0f_mg := hf_mg
  have h0f_mr := hf_mr
  have h0f_mk := hf_mk
  have h0f_mn := hf_mn
  have h0f_ms := hf_ms
  have h0f_nw := hf_nw
  have h0f_np := hf_np
  have h0f_nc := hf_nc
  have h0f_nwt := hf_nwt
  refine lv_aload_n hx hb dX6_count_0 rfl (lv_at hl 0 rfl) ?_
  refine lv_iconst (v := 0) hx hb dX6_count_1 (by decide) ?_
  refine pg_put (ty := .int) (C := RX6) (T := TX6) (N := 10) hx hb hts hi_X6 tyX6 tyX6_ok nmX6 hown hK hP hN hA hS hL_mh hf_mh rfl 0 (by decide) (hts (.fieldLink RX6 41 "BarometerLeagueModel" "thrown" "I") (by decide +kernel)) (fun _ h9 => h9) rfl (by decide +kernel) rfl rfl (Nat.le_of_ble_eq_true rfl) dX6_count_2 (fun H locs hP hS => ?_)
  obtain ⟨f2, ef2⟩ : ∃ z, z = va_up f mh (eO 7 [.int 0, .ref mg, .ref mr, .int (nI n), .ref mk, .ref mn, .int (nI nv), .ref ms, .ref nw, .ref ah]) := ⟨_, rfl⟩
  replace hP : PP g L f2 H := by rw [ef2]; exact hP
  have hf_mg : f2 mg = eI g 12 gl := by rw [ef2, va_up_ne _ _ n_mh_mg.symm]; exact hf_mg
  have hf_mr : f2 mr = eI g 12 rn := by rw [ef2, va_up_ne _ _ n_mh_mr.symm]; exact hf_mr
  have hf_mk : f2 mk = eI g 8 kd := by rw [ef2, va_up_ne _ _ n_mh_mk.symm]; exact hf_mk
  have hf_mn : f2 mn = eI g 8 nu := by rw [ef2, va_up_ne _ _ n_mh_mn.symm]; exact hf_mn
  have hf_ms : f2 ms = eI g 8 sd := by rw [ef2, va_up_ne _ _ n_mh_ms.symm]; exact hf_ms
  have hf_nw : f2 nw = eO 6 [.int (nI d), .int ht, .ref np, .ref nc, .ref nr, .ref nwt] := by rw [ef2, va_up_ne _ _ n_mh_nw.symm]; exact hf_nw
  have hf_np : f2 np = eI g 6 pt := by rw [ef2, va_up_ne _ _ n_mh_np.symm]; exact hf_np
  have hf_nc : f2 nc = eI g 6 co := by rw [ef2, va_up_ne _ _ n_mh_nc.symm]; exact hf_nc
  have hf_nwt : f2 nwt = eI g 48 wt := by rw [ef2, va_up_ne _ _ n_mh_nwt.symm]; exact hf_nwt
  have hf_mh : f2 mh = eO 7 [.int 0, .ref mg, .ref mr, .int (nI n), .ref mk, .ref mn, .int (nI nv), .ref ms, .ref nw, .ref ah] := by rw [ef2]; exact va_up_self _ _ _
  replace hFr : Fr f f2 [mh, ms] := by rw [ef2]; exact hFr.up (by simp)
  refine lv_iload_n hx hb dX6_count_5 rfl (lv_at hl 1 rfl) ?_
  refine lv_iconst (v := 0) hx hb dX6_count_6 (by decide) ?_
  refine lv_bipush (v := 6) hx hb dX6_count_7 (by decide) ?_
  refine ro_S (As := [.int x, .int 0, .int 6]) (rest := []) ⟨hx, hb, hml, hown, hts⟩ (m_X6_isIn l g L f2 x _ _ ) (va_cwS 3 hts gX6_count_X6_isIn rfl rfl rfl (by decide +kernel) ⟨Nat.le_of_ble_eq_true rfl, Nat.le_of_ble_eq_true rfl⟩) hK hP rfl hl.1 rfl (Nat.le_of_ble_eq_true rfl) dX6_count_9 ⟨Nat.zero_le _, Nat.zero_le _⟩ (fun r9 hr9 => ?_)
  have hr9 : r9 = b2i (decide (0 ≤ x ∧ x ≤ 6)) := hr9
  subst hr9
  refine lv_if_eq (tgt := 27) hx hb dX6_count_12 (by decide) (fun c12 => ?_) (fun c12 => ?_)
  · skip
    refine lv_aload_n hx hb dX6_count_27 rfl (lv_at hl 0 rfl) ?_
    refine lv_iconst (v := 1) hx hb dX6_count_28 (by decide) ?_
    refine rw_V (As := [.int 1]) (rest := []) ⟨hx, hb, hml, hown, hts⟩ (m_X6_no l g L f2 _ hN _ _ _ _ _ _ _ _ _ _ _ _ hL_mh hf_mh) (cwV 1 hts gX6_count_X6_no rfl rfl rfl (by decide +kernel) ⟨Nat.le_of_ble_eq_true rfl, Nat.le_of_ble_eq_true rfl⟩) hK hP hA hA2 hS hL_mh hf_mh rfl rfl hl.1 rfl (Nat.le_of_ble_eq_true rfl) dX6_count_29 ⟨Nat.zero_le _, Nat.zero_le _⟩ (fun r29 f29 H locs hr29 hP hS => ?_)
    obtain ⟨hv29, hc29_0, hw29⟩ := hr29
    have hf_mg : f29 mg = eI g 12 gl := hw29.get hf_mg (nm_c n_mh_mg.symm (List.not_mem_nil))
    have hf_mr : f29 mr = eI g 12 rn := hw29.get hf_mr (nm_c n_mh_mr.symm (List.not_mem_nil))
    have hf_mk : f29 mk = eI g 8 kd := hw29.get hf_mk (nm_c n_mh_mk.symm (List.not_mem_nil))
    have hf_mn : f29 mn = eI g 8 nu := hw29.get hf_mn (nm_c n_mh_mn.symm (List.not_mem_nil))
    have hf_ms : f29 ms = eI g 8 sd := hw29.get hf_ms (nm_c n_mh_ms.symm (List.not_mem_nil))
    have hf_nw : f29 nw = eO 6 [.int (nI d), .int ht, .ref np, .ref nc, .ref nr, .ref nwt] := hw29.get hf_nw (nm_c n_mh_nw.symm (List.not_mem_nil))
    have hf_np : f29 np = eI g 6 pt := hw29.get hf_np (nm_c n_mh_np.symm (List.not_mem_nil))
    have hf_nc : f29 nc = eI g 6 co := hw29.get hf_nc (nm_c n_mh_nc.symm (List.not_mem_nil))
    have hf_nwt : f29 nwt = eI g 48 wt := hw29.get hf_nwt (nm_c n_mh_nwt.symm (List.not_mem_nil))
    have hf_mh : f29 mh = eO 7 [.int 1, .ref mg, .ref mr, .int (nI n), .ref mk, .ref mn, .int (nI nv), .ref ms, .ref nw, .ref ah] := hc29_0
    replace hFr : Fr f f29 [mh, ms] := hFr.tr hw29 (by simp)
    subst hv29
    exact hend (0) f29 _ _ _ _ (⟨Or.inl ⟨in_f (k := 6) (by omega) c12, hf_mh, hf_ms⟩, hFr⟩) hP hS rfl dX6_count_32
  · skip
    obtain ⟨k, hk, rfl⟩ := inB_of (in_t (k := 6) (by omega) c12) (by omega)
    refine lv_aload_n hx hb dX6_count_15 rfl (lv_at hl 0 rfl) ?_
    refine lv_aload_n hx hb dX6_count_16 rfl (lv_at hl 0 rfl) ?_
    refine pg_get (C := RX6) (T := TX6) (N := 10) hx hb hts hi_X6 hown hK hP hL_mh hf_mh rfl 8 (by decide) (hts (.fieldLink RX6 28 "BarometerLeagueModel" "now" "LBarometerLeagueModel$State;") (by decide +kernel)) (fun _ h9 => h9) rfl dX6_count_17 ?_
    refine lv_iload_n hx hb dX6_count_20 rfl (lv_at hl 1 rfl) ?_
    refine rw_V (As := [.ref nw, .int (nI k)]) (rest := []) ⟨hx, hb, hml, hown, hts⟩ (m_X6_counted l g L f2 _ hN _ _ _ _ _ _ _ _ _ _ _ _ _ _ _ _ _ _ _ _ _ _ _ _ _ _ k hL_mh hf_mh hL_mg hf_mg hL_mr hf_mr hL_mk hf_mk hL_mn hf_mn hL_ms hf_ms hL_nw hf_nw hL_np hf_np hL_nc hf_nc hL_nwt hf_nwt n_mk_ms n_mn_ms hn hnv hd hk) (cwV 2 hts gX6_count_X6_counted rfl rfl rfl (by decide +kernel) ⟨Nat.le_of_ble_eq_true rfl, Nat.le_of_ble_eq_true rfl⟩) hK hP hA hA2 hS hL_mh hf_mh rfl rfl hl.1 rfl (Nat.le_of_ble_eq_true rfl) dX6_count_21 ⟨Nat.zero_le _, Nat.zero_le _⟩ (fun r21 f21 H locs hr21 hP hS => ?_)
    obtain ⟨hv21, hc21_0, hw21⟩ := hr21
    have hf_mh : f21 mh = eO 7 [.int 0, .ref mg, .ref mr, .int (nI n), .ref mk, .ref mn, .int (nI nv), .ref ms, .ref nw, .ref ah] := hw21.get hf_mh (nm_c n_mh_ms (List.not_mem_nil))
    have hf_mg : f21 mg = eI g 12 gl := hw21.get hf_mg (nm_c n_mg_ms (List.not_mem_nil))
    have hf_mr : f21 mr = eI g 12 rn := hw21.get hf_mr (nm_c n_mr_ms (List.not_mem_nil))
    have hf_mk : f21 mk = eI g 8 kd := hw21.get hf_mk (nm_c n_mk_ms (List.not_mem_nil))
    have hf_mn : f21 mn = eI g 8 nu := hw21.get hf_mn (nm_c n_mn_ms (List.not_mem_nil))
    have hf_nw : f21 nw = eO 6 [.int (nI d), .int ht, .ref np, .ref nc, .ref nr, .ref nwt] := hw21.get hf_nw (nm_c n_ms_nw.symm (List.not_mem_nil))
    have hf_np : f21 np = eI g 6 pt := hw21.get hf_np (nm_c n_ms_np.symm (List.not_mem_nil))
    have hf_nc : f21 nc = eI g 6 co := hw21.get hf_nc (nm_c n_ms_nc.symm (List.not_mem_nil))
    have hf_nwt : f21 nwt = eI g 48 wt := hw21.get hf_nwt (nm_c n_ms_nwt.symm (List.not_mem_nil))
    have hf_ms : f21 ms = eI g 8 (if k = 5 then sdM kd nu gl rn n d sd else sd) := hc21_0
    replace hFr : Fr f f21 [mh, ms] := hFr.tr hw21 (by simp)
    refine lv_goto (tgt := 32) hx hb dX6_count_24 (by decide) ?_
    exact hend (r21) f21 _ _ _ _ (⟨Or.inr ⟨k, hk, rfl, hv21, hf_mh, hf_ms⟩, hFr⟩) hP hS rfl dX6_count_32
