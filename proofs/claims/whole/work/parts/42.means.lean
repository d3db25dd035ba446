set_option maxHeartbeats 4000000 in
set_option maxRecDepth 100000 in
theorem m_X4_mean (l : Launch) (g : GG) (L : List Nat) (f : Nat → va_E) (sz : Nat) (hN : L.Nodup) (lo we al rv d sy rt ed n : Nat) (mo : Int32) (pa nv : Nat) (pl : Nat → Option Nat) (ad aw : Nat → Nat) (vs : Nat → VV) (hL_lo : lo ∈ L) (hf_lo : f lo = eO 5 [.ref we, .ref al, .ref rv, .int (nI d), .ref sy, .ref rt]) (hL_rv : rv ∈ L) (hf_rv : f rv = eO 3 [.ref pa, .int (nI nv)]) (hL_pa : pa ∈ L) (hf_pa : f pa = eV g 6 pl) (hnv : nv ≤ 6) (hpl : ∀ v, v < 6 → pl v = some (ad v)) (hV : Vils g L f 6 ad aw vs) : RD l g yX4_mean wsX4_mean 1 22 L f sz [.ref lo] (fun r f2 => meanD (sumN (fun v => (vs v).2.1) nv) nv r ∧ f2 = f) := by
  refine RD.start (cc := cX4_mean) (maxL := 1) (by decide +kernel) rfl (by simp [lg_sl, Value.category]) ?_
  intro p e s m args below meth c Q ls A hx hb hml hts hown hA hA2 hS hP hK hl hend
  have hl : lv_has ls 1 [(0, .ref lo)] := hl
  have hi_X4 : ∀ w ∈ u_ws RX4 TX4 6, w ∈ wsX4_mean := by decide +kernel
  have hFr : Fr f f [] := Fr.rf
  have n_lo_rv : lo ≠ rv := ne_e hf_lo hf_rv (by simp)
  have n_lo_pa : lo ≠ pa := ne_e hf_lo hf_pa (by simp)
  have n_rv_pa : rv ≠ pa := ne_e hf_rv hf_pa (by simp)
  have h0f_lo := hf_lo
  have h0f_rv := hf_rv
  have h0f_pa := hf_pa
  refine lv_aload_n hx hb dX4_mean_0 rfl (lv_at hl 0 rfl) ?_
  refine pg_get (C := RX4) (T := TX4) (N := 6) hx hb hts hi_X4 hown hK hP hL_lo hf_lo rfl 2 (by decide) (hts (.fieldLink RX4 28 "BarometerLeague" "villages" "LBarometerLeague$VillageRow;") (by decide +kernel)) (fun _ h9 => h9) rfl dX4_mean_1 ?_
  refine ro_V (As := []) (rest := []) ⟨hx, hb, hml, hown, hts⟩ (m_X2_size l g L f _ _ _ hL_rv hf_rv) (cwV 0 hts gX4_mean_X2_size rfl rfl rfl (by decide +kernel) ⟨Nat.le_of_ble_eq_true rfl, Nat.le_of_ble_eq_true rfl⟩) hK hP hL_rv hf_rv rfl rfl hl.1 rfl (Nat.le_of_ble_eq_true rfl) dX4_mean_4 ⟨Nat.zero_le _, Nat.zero_le _⟩ (fun r4 hr4 => ?_)
  have hr4 : r4 = nI nv := hr4
  subst hr4
  refine lv_if_ne (tgt := 12) hx hb dX4_mean_7 (by decide) (fun c7 => ?_) (fun c7 => ?_)
  · skip
    have c7 : ¬ nv = 0 := fun h => c7 ((nI_eq (a := nv) (b := 0) (by omega) (by omega)).mpr h)
    refine lv_aload_n hx hb dX4_mean_12 rfl (lv_at hl 0 rfl) ?_
    refine pg_get (C := RX4) (T := TX4) (N := 6) hx hb hts hi_X4 hown hK hP hL_lo hf_lo rfl 2 (by decide) (hts (.fieldLink RX4 28 "BarometerLeague" "villages" "LBarometerLeague$VillageRow;") (by decide +kernel)) (fun _ h9 => h9) rfl dX4_mean_13 ?_
    refine ro_V (As := []) (rest := []) ⟨hx, hb, hml, hown, hts⟩ (m_X2_allPoints l g L f _ _ _ _ _ _ _ _ hL_rv hf_rv hL_pa hf_pa (by omega) hnv hpl hV) (cwV 0 hts gX4_mean_X2_allPoints rfl rfl rfl (by decide +kernel) ⟨Nat.le_of_ble_eq_true rfl, Nat.le_of_ble_eq_true rfl⟩) hK hP hL_rv hf_rv rfl rfl hl.1 rfl (Nat.le_of_ble_eq_true rfl) dX4_mean_16 ⟨Nat.zero_le _, Nat.zero_le _⟩ (fun r16 hr16 => ?_)
    have hr16 : r16 = sumN (fun v => (vs v).2.1) nv := hr16
    subst hr16
    refine lv_i2d hx hb dX4_mean_19 ?_
    refine lv_aload_n hx hb dX4_mean_20 rfl (lv_at hl 0 rfl) ?_
    refine pg_get (C := RX4) (T := TX4) (N := 6) hx hb hts hi_X4 hown hK hP hL_lo hf_lo rfl 2 (by decide) (hts (.fieldLink RX4 28 "BarometerLeague" "villages" "LBarometerLeague$VillageRow;") (by decide +kernel)) (fun _ h9 => h9) rfl dX4_mean_21 ?_
    refine ro_V (As := []) (rest := [.double (FP.i2d (sumN (fun v => (vs v).2.1) nv))]) ⟨hx, hb, hml, hown, hts⟩ (m_X2_size l g L f _ _ _ hL_rv hf_rv) (cwV 0 hts gX4_mean_X2_size rfl rfl rfl (by decide +kernel) ⟨Nat.le_of_ble_eq_true rfl, Nat.le_of_ble_eq_true rfl⟩) hK hP hL_rv hf_rv rfl rfl hl.1 rfl (Nat.le_of_ble_eq_true rfl) dX4_mean_24 ⟨Nat.zero_le _, Nat.zero_le _⟩ (fun r24 hr24 => ?_)
    have hr24 : r24 = nI nv := hr24
    subst hr24
    refine lv_i2d hx hb dX4_mean_27 ?_
    refine W.base ?_
    refine lv_ddiv_any (Drawn.sameBut.refl s.drawn lw_cs) lw_bits hx hb dX4_mean_28 (fun r28 d1 hal28 hd1 => ?_)
    exact hend d1 hd1 r28 f _ _ _ _ (⟨Or.inr ⟨c7, hal28⟩, rfl⟩) hP hS dX4_mean_29
  · skip
    have c7 : nv = 0 := (nI_eq (a := nv) (b := 0) (by omega) (by omega)).mp (show nI nv = nI 0 from c7)
    refine lv_dconst0 hx hb dX4_mean_10 ?_
    refine W.base ?_
    exact hend s.drawn (Drawn.sameBut.refl s.drawn lw_cs) FP.dconst0 f _ _ _ _ (⟨Or.inl ⟨c7, rfl⟩, rfl⟩) hP hS dX4_mean_11

set_option maxHeartbeats 4000000 in
set_option maxRecDepth 100000 in
theorem m_X6_mean (l : Launch) (g : GG) (L : List Nat) (f : Nat → va_E) (sz : Nat) (hN : L.Nodup) (mh mg mr mk mn ms ah n nv : Nat) (th : Int32) (nw np nc nr nwt d : Nat) (ht : Int32) (pt : Nat → Int32) (hL_mh : mh ∈ L) (hf_mh : f mh = eO 7 [.int th, .ref mg, .ref mr, .int (nI n), .ref mk, .ref mn, .int (nI nv), .ref ms, .ref nw, .ref ah]) (hL_nw : nw ∈ L) (hf_nw : f nw = eO 6 [.int (nI d), .int ht, .ref np, .ref nc, .ref nr, .ref nwt]) (hL_np : np ∈ L) (hf_np : f np = eI g 6 pt) (hnv : nv ≤ 6) : RD l g yX6_mean wsX6_mean 1 23 L f sz [.ref mh] (fun r f2 => meanD (sumN pt nv) nv r ∧ f2 mh = eO 7 [.int 0, .ref mg, .ref mr, .int (nI n), .ref mk, .ref mn, .int (nI nv), .ref ms, .ref nw, .ref ah] ∧ Fr f f2 [mh]) := by
  refine RD.start (cc := cX6_mean) (maxL := 1) (by decide +kernel) rfl (by simp [lg_sl, Value.category]) ?_
  intro p e s m args below meth c Q ls A hx hb hml hts hown hA hA2 hS hP hK hl hend
  have hl : lv_has ls 1 [(0, .ref mh)] := hl
  have hi_X5 : ∀ w ∈ u_ws RX5 TX5 6, w ∈ wsX6_mean := by decide +kernel
  have hi_X6 : ∀ w ∈ u_ws RX6 TX6 10, w ∈ wsX6_mean := by decide +kernel
  have hFr : Fr f f [mh] := Fr.rf
  have n_mh_nw : mh ≠ nw := ne_e hf_mh hf_nw (by simp)
  have n_mh_np : mh ≠ np := ne_e hf_mh hf_np (by simp)
  have n_nw_np : nw ≠ np := ne_e hf_nw hf_np (by simp)
  have h0f_mh := hf_mh
  have h0f_nw := hf_nw
  have h0f_np := hf_np
  refine lv_aload_n hx hb dX6_mean_0 rfl (lv_at hl 0 rfl) ?_
  refine lv_iconst (v := 0) hx hb dX6_mean_1 (by decide) ?_
  refine pg_put (ty := .int) (C := RX6) (T := TX6) (N := 10) hx hb hts hi_X6 tyX6 tyX6_ok nmX6 hown hK hP hN hA hS hL_mh hf_mh rfl 0 (by decide) (hts (.fieldLink RX6 41 "BarometerLeagueModel" "thrown" "I") (by decide +kernel)) (fun _ h9 => h9) rfl (by decide +kernel) rfl rfl (Nat.le_of_ble_eq_true rfl) dX6_mean_2 (fun H locs hP hS => ?_)
  obtain ⟨f2, ef2⟩ : ∃ z, z = va_up f mh (eO 7 [.int 0, .ref mg, .ref mr, .int (nI n), .ref mk, .ref mn, .int (nI nv), .ref ms, .ref nw, .ref ah]) := ⟨_, rfl⟩
  replace hP : PP g L f2 H := by rw [ef2]; exact hP
  have hf_nw : f2 nw = eO 6 [.int (nI d), .int ht, .ref np, .ref nc, .ref nr, .ref nwt] := by rw [ef2, va_up_ne _ _ n_mh_nw.symm]; exact hf_nw
  have hf_np : f2 np = eI g 6 pt := by rw [ef2, va_up_ne _ _ n_mh_np.symm]; exact hf_np
  have hf_mh : f2 mh = eO 7 [.int 0, .ref mg, .ref mr, .int (nI n), .ref mk, .ref mn, .int (nI nv), .ref ms, .ref nw, .ref ah] := by rw [ef2]; exact va_up_self _ _ _
  replace hFr : Fr f f2 [mh] := by rw [ef2]; exact hFr.up (by simp)
  refine lv_aload_n hx hb dX6_mean_5 rfl (lv_at hl 0 rfl) ?_
  refine pg_get (C := RX6) (T := TX6) (N := 10) hx hb hts hi_X6 hown hK hP hL_mh hf_mh rfl 6 (by decide) (hts (.fieldLink RX6 52 "BarometerLeagueModel" "villages" "I") (by decide +kernel)) (fun _ h9 => h9) rfl dX6_mean_6 ?_
  refine lv_if_ne (tgt := 16) hx hb dX6_mean_9 (by decide) (fun c9 => ?_) (fun c9 => ?_)
  · skip
    have c9 : ¬ nv = 0 := fun h => c9 ((nI_eq (a := nv) (b := 0) (by omega) (by omega)).mpr h)
    refine lv_aload_n hx hb dX6_mean_16 rfl (lv_at hl 0 rfl) ?_
    refine lv_aload_n hx hb dX6_mean_17 rfl (lv_at hl 0 rfl) ?_
    refine pg_get (C := RX6) (T := TX6) (N := 10) hx hb hts hi_X6 hown hK hP hL_mh hf_mh rfl 8 (by decide) (hts (.fieldLink RX6 28 "BarometerLeagueModel" "now" "LBarometerLeagueModel$State;") (by decide +kernel)) (fun _ h9 => h9) rfl dX6_mean_18 ?_
    refine pg_getN (C := RX5) (T := TX5) (N := 6) hx hb hts hi_X5 hown hK hP hL_nw hf_nw rfl 2 (by decide) (hK.nest 9 rfl) (fun _ h9 => h9) rfl dX6_mean_21 ?_
    refine ro_V (As := [.ref np]) (rest := []) ⟨hx, hb, hml, hown, hts⟩ (m_X6_sumOf l g L f2 _ _ _ _ _ _ _ _ _ _ _ _ _ hL_mh hf_mh hL_np hf_np hnv) (cwV 1 hts gX6_mean_X6_sumOf rfl rfl rfl (by decide +kernel) ⟨Nat.le_of_ble_eq_true rfl, Nat.le_of_ble_eq_true rfl⟩) hK hP hL_mh hf_mh rfl rfl hl.1 rfl (Nat.le_of_ble_eq_true rfl) dX6_mean_24 ⟨Nat.zero_le _, Nat.zero_le _⟩ (fun r24 hr24 => ?_)
    have hr24 : r24 = sumN pt nv := hr24
    subst hr24
    refine lv_i2d hx hb dX6_mean_27 ?_
    refine lv_aload_n hx hb dX6_mean_28 rfl (lv_at hl 0 rfl) ?_
    refine pg_get (C := RX6) (T := TX6) (N := 10) hx hb hts hi_X6 hown hK hP hL_mh hf_mh rfl 6 (by decide) (hts (.fieldLink RX6 52 "BarometerLeagueModel" "villages" "I") (by decide +kernel)) (fun _ h9 => h9) rfl dX6_mean_29 ?_
    refine lv_i2d hx hb dX6_mean_32 ?_
    refine W.base ?_
    refine lv_ddiv_any (Drawn.sameBut.refl s.drawn lw_cs) lw_bits hx hb dX6_mean_33 (fun r33 d1 hal33 hd1 => ?_)
    exact hend d1 hd1 r33 f2 _ _ _ _ (⟨Or.inr ⟨c9, hal33⟩, hf_mh, hFr⟩) hP hS dX6_mean_34
  · skip
    have c9 : nv = 0 := (nI_eq (a := nv) (b := 0) (by omega) (by omega)).mp (show nI nv = nI 0 from c9)
    refine lv_dconst0 hx hb dX6_mean_12 ?_
    refine lv_goto (tgt := 34) hx hb dX6_mean_13 (by decide) ?_
    refine W.base ?_
    exact hend s.drawn (Drawn.sameBut.refl s.drawn lw_cs) FP.dconst0 f2 _ _ _ _ (⟨Or.inl ⟨c9, rfl⟩, hf_mh, hFr⟩) hP hS dX6_mean_34

set_option maxHeartbeats 4000000 in
set_option maxRecDepth 100000 in
theorem m_X6_digest (l : Launch) (g : GG) (L : List Nat) (f : Nat → va_E) (sz : Nat) (hN : L.Nodup) (mh mg mr mk mn ms ah n nv : Nat) (th : Int32) (gl rn kd nu sd : Nat → Int32) (nw np nc nr nwt d : Nat) (ht : Int32) (pt co ro wt : Nat → Int32) (hL_mh : mh ∈ L) (hf_mh : f mh = eO 7 [.int th, .ref mg, .ref mr, .int (nI n), .ref mk, .ref mn, .int (nI nv), .ref ms, .ref nw, .ref ah]) (hL_mg : mg ∈ L) (hf_mg : f mg = eI g 12 gl) (hL_mr : mr ∈ L) (hf_mr : f mr = eI g 12 rn) (hL_mk : mk ∈ L) (hf_mk : f mk = eI g 8 kd) (hL_mn : mn ∈ L) (hf_mn : f mn = eI g 8 nu) (hL_ms : ms ∈ L) (hf_ms : f ms = eI g 8 sd) (hL_nw : nw ∈ L) (hf_nw : f nw = eO 6 [.int (nI d), .int ht, .ref np, .ref nc, .ref nr, .ref nwt]) (hL_np : np ∈ L) (hf_np : f np = eI g 6 pt) (hL_nc : nc ∈ L) (hf_nc : f nc = eI g 6 co) (hL_nr : nr ∈ L) (hf_nr : f nr = eI g 6 ro) (hL_nwt : nwt ∈ L) (hf_nwt : f nwt = eI g 48 wt) (n_mk_ms : mk ≠ ms) (n_mn_ms : mn ≠ ms) (hn : n ≤ 8) (hnv : nv ≤ 6) (hd : d < 2 ^ 30) : RJ l g yX6_digest wsX6_digest 4 93 L f sz [.ref mh] (fun r f2 => r = digL (fun k => countM (sdM kd nu gl rn n d sd) pt co rn wt n nv d k) gl rn (fun z k => toldM kd nu gl rn wt nv z k) n (fun v k => aboutM (sdM kd nu gl rn n d sd) pt co ro wt n nv v k) (fun v k => wt (8 * v + k)) nv ∧ f2 mh = eO 7 [.int 0, .ref mg, .ref mr, .int (nI n), .ref mk, .ref mn, .int (nI nv), .ref ms, .ref nw, .ref ah] ∧ (∃ sx, (sx = sd ∨ sx = sdM kd nu gl rn n d sd) ∧ f2 ms = eI g 8 sx) ∧ Fr f f2 [mh, ms]) := by
  refine RJ.start (cc := cX6_digest) (maxL := 5) (by decide +kernel) rfl (by simp [lg_sl, Value.category]) ?_
  intro p e s m args below meth c Q ls A hx hb hml hts hown hA hA2 hS hP hK hl hend
  have hl : lv_has ls 5 [(0, .ref mh)] := hl
  have hi_X5 : ∀ w ∈ u_ws RX5 TX5 6, w ∈ wsX6_digest := by decide +kernel
  have hi_X6 : ∀ w ∈ u_ws RX6 TX6 10, w ∈ wsX6_digest := by decide +kernel
  have hFr : Fr f f [mh, ms] := Fr.rf
  have n_mh_mg : mh ≠ mg := ne_e hf_mh hf_mg (by simp)
  have n_mh_mr : mh ≠ mr := ne_e hf_mh hf_mr (by simp)
  have n_mh_mk : mh ≠ mk := ne_e hf_mh hf_mk (by simp)
  have n_mh_mn : mh ≠ mn := ne_e hf_mh hf_mn (by simp)
  have n_mh_ms : mh ≠ ms := ne_e hf_mh hf_ms (by simp)
  have n_mh_nw : mh ≠ nw := ne_e hf_mh hf_nw (by simp)
  have n_mh_np : mh ≠ np := ne_e hf_mh hf_np (by simp)
  have n_mh_nc : mh ≠ nc := ne_e hf_mh hf_nc (by simp)
  have n_mh_nr : mh ≠ nr := ne_e hf_mh hf_nr (by simp)
  have n_mh_nwt : mh ≠ nwt := ne_e hf_mh hf_nwt (by simp)
  have n_mg_mk : mg ≠ mk := ne_e hf_mg hf_mk (by simp)
  have n_mg_mn : mg ≠ mn := ne_e hf_mg hf_mn (by simp)
  have n_mg_ms : mg ≠ ms := ne_e hf_mg hf_ms (by simp)
  have n_mg_nw : mg ≠ nw := ne_e hf_mg hf_nw (by simp)
  have n_mg_np : mg ≠ np := ne_e hf_mg hf_np (by simp)
  have n_mg_nc : mg ≠ nc := ne_e hf_mg hf_nc (by simp)
  have n_mg_nr : mg ≠ nr := ne_e hf_mg hf_nr (by simp)
  have n_mg_nwt : mg ≠ nwt := ne_e hf_mg hf_nwt (by simp)
  have n_mr_mk : mr ≠ mk := ne_e hf_mr hf_mk (by simp)
  have n_mr_mn : mr ≠ mn := ne_e hf_mr hf_mn (by simp)
  have n_mr_ms : mr ≠ ms := ne_e hf_mr hf_ms (by simp)
  have n_mr_nw : mr ≠ nw := ne_e hf_mr hf_nw (by simp)
  have n_mr_np : mr ≠ np := ne_e hf_mr hf_np (by simp)
  have n_mr_nc : mr ≠ nc := ne_e hf_mr hf_nc (by simp)
  have n_mr_nr : mr ≠ nr := ne_e hf_mr hf_nr (by simp)
  have n_mr_nwt : mr ≠ nwt := ne_e hf_mr hf_nwt (by simp)
  have n_mk_nw : mk ≠ nw := ne_e hf_mk hf_nw (by simp)
  have n_mk_np : mk ≠ np := ne_e hf_mk hf_np (by simp)
  have n_mk_nc : mk ≠ nc := ne_e hf_mk hf_nc (by simp)
  have n_mk_nr : mk ≠ nr := ne_e hf_mk hf_nr (by simp)
  have n_mk_nwt : mk ≠ nwt := ne_e hf_mk hf_nwt (by simp)
  have n_mn_nw : mn ≠ nw := ne_e hf_mn hf_nw (by simp)
  have n_mn_np : mn ≠ np := ne_e hf_mn hf_np (by simp)
  have n_mn_nc : mn ≠ nc := ne_e hf_mn hf_nc (by simp)
  have n_mn_nr : mn ≠ nr := ne_e hf_mn hf_nr (by simp)
  have n_mn_nwt : mn ≠ nwt := ne_e hf_mn hf_nwt (by simp)
  have n_ms_nw : ms ≠ nw := ne_e hf_ms hf_nw (by simp)
  have n_ms_np : ms ≠ np := ne_e hf_ms hf_np (by simp)
  have n_ms_nc : ms ≠ nc := ne_e hf_ms hf_nc (by simp)
  have n_ms_nr : ms ≠ nr := ne_e hf_ms hf_nr (by simp)
  have n_ms_nwt : ms ≠ nwt := ne_e hf_ms hf_nwt (by simp)
  have n_nw_np : nw ≠ np := ne_e hf_nw hf_np (by simp)
  have n_nw_nc : nw ≠ nc := ne_e hf_nw hf_nc (by simp)
  have n_nw_nr : nw ≠ nr := ne_e hf_nw hf_nr (by simp)
  have n_nw_nwt : nw ≠ nwt := ne_e hf_nw hf_nwt (by simp)
  have n_np_nwt : np ≠ nwt := ne_e hf_np hf_nwt (by simp)
  have n_nc_nwt : nc ≠ nwt := ne_e hf_nc hf_nwt (by simp)
  have n_nr_nwt : nr ≠ nwt := ne_e hf_nr hf_nwt (by simp)
  have h0f_mh := hf_mh
  have h0f_mg := hf_mg
  have h0f_mr := hf_mr
  have h0f_mk := hf_mk
  have h0f_mn := hf_mn
  have h0f_ms := hf_ms
  have h0f_nw := hf_nw
  have h0f_np := hf_np
  have h0f_nc := hf_nc
  have h0f_nr := hf_nr
  have h0f_nwt := hf_nwt
  obtain ⟨SD, hSD⟩ : ∃ z, z = sdM kd nu gl rn n d sd := ⟨_, rfl⟩
  refine lv_aload_n hx hb dX6_digest_0 rfl (lv_at hl 0 rfl) ?_
  refine lv_iconst (v := 0) hx hb dX6_digest_1 (by decide) ?_
  refine pg_put (ty := .int) (C := RX6) (T := TX6) (N := 10) hx hb hts hi_X6 tyX6 tyX6_ok nmX6 hown hK hP hN hA hS hL_mh hf_mh rfl 0 (by decide) (hts (.fieldLink RX6 41 "BarometerLeagueModel" "thrown" "I") (by decide +kernel)) (fun _ h9 => h9) rfl (by decide +kernel) rfl rfl (Nat.le_of_ble_eq_true rfl) dX6_digest_2 (fun H locs hP hS => ?_)
  obtain ⟨f2, ef2⟩ : ∃ z, z = va_up f mh (eO 7 [.int 0, .ref mg, .ref mr, .int (nI n), .ref mk, .ref mn, .int (nI nv), .ref ms, .ref nw, .ref ah]) := ⟨_, rfl⟩
  replace hP : PP g L f2 H := by rw [ef2]; exact hP
  have hf_mg : f2 mg = eI g 12 gl := by rw [ef2, va_up_ne _ _ n_mh_mg.symm]; exact hf_mg
  have hf_mr : f2 mr = eI g 12 rn := by rw [ef2, va_up_ne _ _ n_mh_mr.symm]; exact hf_mr
  have hf_mk : f2 mk = eI g 8 kd := by rw [ef2, va_up_ne _ _ n_mh_mk.symm]; exact hf_mk
  have hf_mn : f2 mn = eI g 8 nu := by rw [ef2, va_up_ne _ _ n_mh_mn.symm]; exact hf_mn
  have hf_ms : f2 ms = eI g 8 sd := by rw [ef2, va_up_ne _ _ n_mh_ms.symm]; exact hf_ms
  have hf_nw : f2 nw = eO 6 [.int (nI d), .int ht, .ref np, .ref nc, .ref nr, .ref nwt] := by rw [ef2, va_up_ne _ _ n_mh_nw.symm]; exact hf_nw
  have hf_np : f2 np = eI g 6 pt := by rw [ef2, va_up_ne _ _ n_mh_np.symm]; exact hf_np
  have hf_nc : f2 nc = eI g 6 co := by rw [ef2, va_up_ne _ _ n_mh_nc.symm]; exact hf_nc
  have hf_nr : f2 nr = eI g 6 ro := by rw [ef2, va_up_ne _ _ n_mh_nr.symm]; exact hf_nr
  have hf_nwt : f2 nwt = eI g 48 wt := by rw [ef2, va_up_ne _ _ n_mh_nwt.symm]; exact hf_nwt
  have hf_mh : f2 mh = eO 7 [.int 0, .ref mg, .ref mr, .int (nI n), .ref mk, .ref mn, .int (nI nv), .ref ms, .ref nw, .ref ah] := by rw [ef2]; exact va_up_self _ _ _
  replace hFr : Fr f f2 [mh, ms] := by rw [ef2]; exact hFr.up (by simp)
  refine lv_ldc2 (v := 1459) hx hb hown (hts (.constantLong RX6 158 (1459)) (by decide +kernel)) dX6_digest_5 ?_
  refine lv_lstore_n (lv' := [(1, .long 1459), (0, .ref mh)]) hx hb dX6_digest_8 rfl hl (by decide) rfl (fun ls hl => ?_)
  refine lv_iconst (v := 0) hx hb dX6_digest_9 (by decide) ?_
  refine lv_istore_n (lv' := [(3, .int 0), (1, .long 1459), (0, .ref mh)]) hx hb dX6_digest_10 rfl hl (by decide) rfl (fun ls hl => ?_)
  have K11 : ∀ (n11 : Nat) (i : Nat) (acc : Int64) (sx : Nat → Int32) (f11 : Nat → va_E) (H : Heap) (locs : List Loc), 8 - i < n11 → i ≤ 7 → acc = dgN (fun k => countM SD pt co rn wt n nv d k) 1459 i → sx = sd ∨ sx = SD → f11 mh = eO 7 [.int 0, .ref mg, .ref mr, .int (nI n), .ref mk, .ref mn, .int (nI nv), .ref ms, .ref nw, .ref ah] → f11 ms = eI g 8 sx → Fr f f11 [mh, ms] → PP g L f11 H → va_S A s.heap H locs → ∀ (ls : Array Slot), lv_has ls 5 [(3, .int (nI i)), (1, .long acc), (0, .ref mh)] → W p l e ({ frames := 4, cells := 0, slots := 0, locals := 93 } : Room) s m args below meth c H locs 0 0 Q (F0 m 11 ls []) := by
    intro n11
    induction n11 with
    | zero => intros; omega
    | succ n11 ih11 =>
      intro i acc sx f11 H locs hm11 hi ha hsx hq11_0 hq11_1 hFr hP hS ls hl
      have hf_mg : f11 mg = eI g 12 gl := hFr.get h0f_mg (nm_c n_mh_mg.symm (nm_c n_mg_ms (List.not_mem_nil)))
      have hf_mr : f11 mr = eI g 12 rn := hFr.get h0f_mr (nm_c n_mh_mr.symm (nm_c n_mr_ms (List.not_mem_nil)))
      have hf_mk : f11 mk = eI g 8 kd := hFr.get h0f_mk (nm_c n_mh_mk.symm (nm_c n_mk_ms (List.not_mem_nil)))
      have hf_mn : f11 mn = eI g 8 nu := hFr.get h0f_mn (nm_c n_mh_mn.symm (nm_c n_mn_ms (List.not_mem_nil)))
      have hf_nw : f11 nw = eO 6 [.int (nI d), .int ht, .ref np, .ref nc, .ref nr, .ref nwt] := hFr.get h0f_nw (nm_c n_mh_nw.symm (nm_c n_ms_nw.symm (List.not_mem_nil)))
      have hf_np : f11 np = eI g 6 pt := hFr.get h0f_np (nm_c n_mh_np.symm (nm_c n_ms_np.symm (List.not_mem_nil)))
      have hf_nc : f11 nc = eI g 6 co := hFr.get h0f_nc (nm_c n_mh_nc.symm (nm_c n_ms_nc.symm (List.not_mem_nil)))
      have hf_nr : f11 nr = eI g 6 ro := hFr.get h0f_nr (nm_c n_mh_nr.symm (nm_c n_ms_nr.symm (List.not_mem_nil)))
      have hf_nwt : f11 nwt = eI g 48 wt := hFr.get h0f_nwt (nm_c n_mh_nwt.symm (nm_c n_ms_nwt.symm (List.not_mem_nil)))
      have hf_mh : f11 mh = eO 7 [.int 0, .ref mg, .ref mr, .int (nI n), .ref mk, .ref mn, .int (nI nv), .ref ms, .ref nw, .ref ah] := hq11_0
      have hf_ms : f11 ms = eI g 8 sx := hq11_1
      refine lv_iload_n hx hb dX6_digest_11 rfl (lv_at hl 0 rfl) ?_
      refine lv_bipush (v := 7) hx hb dX6_digest_12 (by decide) ?_
      refine lv_icmp_ge (tgt := 40) hx hb dX6_digest_14 (by decide) (fun c14 => ?_) (fun c14 => ?_)
      · skip
        have c14 : 7 ≤ i := (nI_leI (a := 7) (b := i) (by omega) (by omega)).mp (show nI 7 ≤ nI i from c14)
        obtain rfl : i = 7 := by omega
        refine lv_iconst (v := 0) hx hb dX6_digest_40 (by decide) ?_
        refine lv_istore_n (lv' := [(3, .int 0), (1, .long acc), (0, .ref mh)]) hx hb dX6_digest_41 rfl hl (by decide) rfl (fun ls hl => ?_)
        have K42 : ∀ (n42 : Nat) (i : Nat) (acc2 : Int64), 13 - i < n42 → i ≤ 12 → acc2 = dgT gl rn (dgN (fun k => countM SD pt co rn wt n nv d k) 1459 7) i → ∀ (ls : Array Slot), lv_has ls 5 [(3, .int (nI i)), (1, .long acc2), (0, .ref mh)] → W p l e ({ frames := 4, cells := 0, slots := 0, locals := 93 } : Room) s m args below meth c H locs 0 0 Q (F0 m 42 ls []) := by
          intro n42
          induction n42 with
          | zero => intros; omega
          | succ n42 ih42 =>
            intro i acc2 hm42 hi ha ls hl
            refine lv_iload_n hx hb dX6_digest_42 rfl (lv_at hl 0 rfl) ?_
            refine lv_bipush (v := 12) hx hb dX6_digest_43 (by decide) ?_
            refine lv_icmp_ge (tgt := 80) hx hb dX6_digest_45 (by decide) (fun c45 => ?_) (fun c45 => ?_)
            · skip
              have c45 : 12 ≤ i := (nI_leI (a := 12) (b := i) (by omega) (by omega)).mp (show nI 12 ≤ nI i from c45)
              obtain rfl : i = 12 := by omega
              refine lv_iconst (v := 0) hx hb dX6_digest_80 (by decide) ?_
              refine lv_istore_n (lv' := [(3, .int 0), (1, .long acc2), (0, .ref mh)]) hx hb dX6_digest_81 rfl hl (by decide) rfl (fun ls hl => ?_)
              have K82 : ∀ (n82 : Nat) (i : Nat) (acc3 : Int64), n + 1 - i < n82 → i ≤ n → acc3 = dgS (fun z k => toldM kd nu gl rn wt nv z k) 4 (dgT gl rn (dgN (fun k => countM SD pt co rn wt n nv d k) 1459 7) 12) i → ∀ (ls : Array Slot), lv_has ls 5 [(3, .int (nI i)), (1, .long acc3), (0, .ref mh)] → W p l e ({ frames := 4, cells := 0, slots := 0, locals := 93 } : Room) s m args below meth c H locs 0 0 Q (F0 m 82 ls []) := by
                intro n82
                induction n82 with
                | zero => intros; omega
                | succ n82 ih82 =>
                  intro i acc3 hm82 hi ha ls hl
                  refine lv_iload_n hx hb dX6_digest_82 rfl (lv_at hl 0 rfl) ?_
                  refine lv_aload_n hx hb dX6_digest_83 rfl (lv_at hl 2 rfl) ?_
                  refine pg_get (C := RX6) (T := TX6) (N := 10) hx hb hts hi_X6 hown hK hP hL_mh hf_mh rfl 3 (by decide) (hts (.fieldLink RX6 45 "BarometerLeagueModel" "signs" "I") (by decide +kernel)) (fun _ h9 => h9) rfl dX6_digest_84 ?_
                  refine lv_icmp_ge (tgt := 126) hx hb dX6_digest_87 (by decide) (fun c87 => ?_) (fun c87 => ?_)
                  · skip
                    have c87 : n ≤ i := (nI_leI (a := n) (b := i) (by omega) (by omega)).mp (show nI n ≤ nI i from c87)
                    obtain rfl : n = i := by omega
                    refine lv_iconst (v := 0) hx hb dX6_digest_126 (by decide) ?_
                    refine lv_istore_n (lv' := [(3, .int 0), (1, .long acc3), (0, .ref mh)]) hx hb dX6_digest_127 rfl hl (by decide) rfl (fun ls hl => ?_)
                    have K128 : ∀ (n128 : Nat) (i : Nat) (acc5 : Int64) (sx : Nat → Int32) (f128 : Nat → va_E) (H : Heap) (locs : List Loc), nv + 1 - i < n128 → i ≤ nv → acc5 = dgV (fun v k => aboutM SD pt co ro wt n nv v k) (fun v k => wt (8 * v + k)) n (dgS (fun z k => toldM kd nu gl rn wt nv z k) 4 (dgT gl rn (dgN (fun k => countM SD pt co rn wt n nv d k) 1459 7) 12) n) i → sx = sd ∨ sx = SD → f128 mh = eO 7 [.int 0, .ref mg, .ref mr, .int (nI n), .ref mk, .ref mn, .int (nI nv), .ref ms, .ref nw, .ref ah] → f128 ms = eI g 8 sx → Fr f f128 [mh, ms] → PP g L f128 H → va_S A s.heap H locs → ∀ (ls : Array Slot), lv_has ls 5 [(3, .int (nI i)), (1, .long acc5), (0, .ref mh)] → W p l e ({ frames := 4, cells := 0, slots := 0, locals := 93 } : Room) s m args below meth c H locs 0 0 Q (F0 m 128 ls []) := by
                      intro n128
                      induction n128 with
                      | zero => intros; omega
                      | succ n128 ih128 =>
                        intro i acc5 sx f128 H locs hm128 hi ha hsx hq128_0 hq128_1 hFr hP hS ls hl
                        have hf_mg : f128 mg = eI g 12 gl := hFr.get h0f_mg (nm_c n_mh_mg.symm (nm_c n_mg_ms (List.not_mem_nil)))
                        have hf_mr : f128 mr = eI g 12 rn := hFr.get h0f_mr (nm_c n_mh_mr.symm (nm_c n_mr_ms (List.not_mem_nil)))
                        have hf_mk : f128 mk = eI g 8 kd := hFr.get h0f_mk (nm_c n_mh_mk.symm (nm_c n_mk_ms (List.not_mem_nil)))
                        have hf_mn : f128 mn = eI g 8 nu := hFr.get h0f_mn (nm_c n_mh_mn.symm (nm_c n_mn_ms (List.not_mem_nil)))
                        have hf_nw : f128 nw = eO 6 [.int (nI d), .int ht, .ref np, .ref nc, .ref nr, .ref nwt] := hFr.get h0f_nw (nm_c n_mh_nw.symm (nm_c n_ms_nw.symm (List.not_mem_nil)))
                        have hf_np : f128 np = eI g 6 pt := hFr.get h0f_np (nm_c n_mh_np.symm (nm_c n_ms_np.symm (List.not_mem_nil)))
                        have hf_nc : f128 nc = eI g 6 co := hFr.get h0f_nc (nm_c n_mh_nc.symm (nm_c n_ms_nc.symm (List.not_mem_nil)))
                        have hf_nr : f128 nr = eI g 6 ro := hFr.get h0f_nr (nm_c n_mh_nr.symm (nm_c n_ms_nr.symm (List.not_mem_nil)))
                        have hf_nwt : f128 nwt = eI g 48 wt := hFr.get h0f_nwt (nm_c n_mh_nwt.symm (nm_c n_ms_nwt.symm (List.not_mem_nil)))
                        have hf_mh : f128 mh = eO 7 [.int 0, .ref mg, .ref mr, .int (nI n), .ref mk, .ref mn, .int (nI nv), .ref ms, .ref nw, .ref ah] := hq128_0
                        have hf_ms : f128 ms = eI g 8 sx := hq128_1
                        refine lv_iload_n hx hb dX6_digest_128 rfl (lv_at hl 0 rfl) ?_
                        refine lv_aload_n hx hb dX6_digest_129 rfl (lv_at hl 2 rfl) ?_
                        refine pg_get (C := RX6) (T := TX6) (N := 10) hx hb hts hi_X6 hown hK hP hL_mh hf_mh rfl 6 (by decide) (hts (.fieldLink RX6 52 "BarometerLeagueModel" "villages" "I") (by decide +kernel)) (fun _ h9 => h9) rfl dX6_digest_130 ?_
                        refine lv_icmp_ge (tgt := 214) hx hb dX6_digest_133 (by decide) (fun c133 => ?_) (fun c133 => ?_)
                        · skip
                          have c133 : nv ≤ i := (nI_leI (a := nv) (b := i) (by omega) (by omega)).mp (show nI nv ≤ nI i from c133)
                          refine lv_lload_n hx hb dX6_digest_214 rfl (lv_at hl 1 rfl) ?_
                          exact hend (acc5) f128 _ _ _ _ (⟨by rw [ha, show i = nv from (by omega), hSD]; rfl, hf_mh, ⟨_, by rw [← hSD]; exact hsx, hf_ms⟩, hFr⟩) hP hS dX6_digest_215
                        · skip
                          have c133 : ¬ nv ≤ i := fun h => c133 ((nI_leI (a := nv) (b := i) (by omega) (by omega)).mpr h)
                          refine lv_iconst (v := 0) hx hb dX6_digest_136 (by decide) ?_
                          refine lv_istore (lv' := [(4, .int 0), (3, .int (nI i)), (1, .long acc5), (0, .ref mh)]) hx hb dX6_digest_137 hl (by decide) rfl (fun ls hl => ?_)
                          have K139 : ∀ (n139 : Nat) (j : Nat) (acc6 : Int64) (sx : Nat → Int32) (f139 : Nat → va_E) (H : Heap) (locs : List Loc), 8 - j < n139 → j ≤ 7 → acc6 = dgN ((fun v k => aboutM SD pt co ro wt n nv v k) i) (dgV (fun v k => aboutM SD pt co ro wt n nv v k) (fun v k => wt (8 * v + k)) n (dgS (fun z k => toldM kd nu gl rn wt nv z k) 4 (dgT gl rn (dgN (fun k => countM SD pt co rn wt n nv d k) 1459 7) 12) n) i) j → sx = sd ∨ sx = SD → f139 mh = eO 7 [.int 0, .ref mg, .ref mr, .int (nI n), .ref mk, .ref mn, .int (nI nv), .ref ms, .ref nw, .ref ah] → f139 ms = eI g 8 sx → Fr f f139 [mh, ms] → PP g L f139 H → va_S A s.heap H locs → ∀ (ls : Array Slot), lv_has ls 5 [(4, .int (nI j)), (3, .int (nI i)), (1, .long acc6), (0, .ref mh)] → W p l e ({ frames := 4, cells := 0, slots := 0, locals := 93 } : Room) s m args below meth c H locs 0 0 Q (F0 m 139 ls []) := by
                            intro n139
                            induction n139 with
                            | zero => intros; omega
                            | succ n139 ih139 =>
                              intro j acc6 sx f139 H locs hm139 hj ha2 hsx hq139_0 hq139_1 hFr hP hS ls hl
                              have hf_mg : f139 mg = eI g 12 gl := hFr.get h0f_mg (nm_c n_mh_mg.symm (nm_c n_mg_ms (List.not_mem_nil)))
                              have hf_mr : f139 mr = eI g 12 rn := hFr.get h0f_mr (nm_c n_mh_mr.symm (nm_c n_mr_ms (List.not_mem_nil)))
                              have hf_mk : f139 mk = eI g 8 kd := hFr.get h0f_mk (nm_c n_mh_mk.symm (nm_c n_mk_ms (List.not_mem_nil)))
                              have hf_mn : f139 mn = eI g 8 nu := hFr.get h0f_mn (nm_c n_mh_mn.symm (nm_c n_mn_ms (List.not_mem_nil)))
                              have hf_nw : f139 nw = eO 6 [.int (nI d), .int ht, .ref np, .ref nc, .ref nr, .ref nwt] := hFr.get h0f_nw (nm_c n_mh_nw.symm (nm_c n_ms_nw.symm (List.not_mem_nil)))
                              have hf_np : f139 np = eI g 6 pt := hFr.get h0f_np (nm_c n_mh_np.symm (nm_c n_ms_np.symm (List.not_mem_nil)))
                              have hf_nc : f139 nc = eI g 6 co := hFr.get h0f_nc (nm_c n_mh_nc.symm (nm_c n_ms_nc.symm (List.not_mem_nil)))
                              have hf_nr : f139 nr = eI g 6 ro := hFr.get h0f_nr (nm_c n_mh_nr.symm (nm_c n_ms_nr.symm (List.not_mem_nil)))
                              have hf_nwt : f139 nwt = eI g 48 wt := hFr.get h0f_nwt (nm_c n_mh_nwt.symm (nm_c n_ms_nwt.symm (List.not_mem_nil)))
                              have hf_mh : f139 mh = eO 7 [.int 0, .ref mg, .ref mr, .int (nI n), .ref mk, .ref mn, .int (nI nv), .ref ms, .ref nw, .ref ah] := hq139_0
                              have hf_ms : f139 ms = eI g 8 sx := hq139_1
                              refine lv_iload hx hb dX6_digest_139 (lv_at hl 0 rfl) ?_
                              refine lv_bipush (v := 7) hx hb dX6_digest_141 (by decide) ?_
                              refine lv_icmp_ge (tgt := 167) hx hb dX6_digest_143 (by decide) (fun c143 => ?_) (fun c143 => ?_)
                              · skip
                                have c143 : 7 ≤ j := (nI_leI (a := 7) (b := j) (by omega) (by omega)).mp (show nI 7 ≤ nI j from c143)
                                obtain rfl : j = 7 := by omega
                                refine lv_iconst (v := 0) hx hb dX6_digest_167 (by decide) ?_
                                refine lv_istore (lv' := [(4, .int 0), (3, .int (nI i)), (1, .long acc6), (0, .ref mh)]) hx hb dX6_digest_168 hl (by decide) rfl (fun ls hl => ?_)
                                have K170 : ∀ (n170 : Nat) (j : Nat) (acc7 : Int64), n + 1 - j < n170 → j ≤ n → acc7 = dgN ((fun v k => wt (8 * v + k)) i) (dgN ((fun v k => aboutM SD pt co ro wt n nv v k) i) (dgV (fun v k => aboutM SD pt co ro wt n nv v k) (fun v k => wt (8 * v + k)) n (dgS (fun z k => toldM kd nu gl rn wt nv z k) 4 (dgT gl rn (dgN (fun k => countM SD pt co rn wt n nv d k) 1459 7) 12) n) i) 7) j → ∀ (ls : Array Slot), lv_has ls 5 [(4, .int (nI j)), (3, .int (nI i)), (1, .long acc7), (0, .ref mh)] → W p l e ({ frames := 4, cells := 0, slots := 0, locals := 93 } : Room) s m args below meth c H locs 0 0 Q (F0 m 170 ls []) := by
                                  intro n170
                                  induction n170 with
                                  | zero => intros; omega
                                  | succ n170 ih170 =>
                                    intro j acc7 hm170 hj ha3 ls hl
                                    refine lv_iload hx hb dX6_digest_170 (lv_at hl 0 rfl) ?_
                                    refine lv_aload_n hx hb dX6_digest_172 rfl (lv_at hl 3 rfl) ?_
                                    refine pg_get (C := RX6) (T := TX6) (N := 10) hx hb hts hi_X6 hown hK hP hL_mh hf_mh rfl 3 (by decide) (hts (.fieldLink RX6 45 "BarometerLeagueModel" "signs" "I") (by decide +kernel)) (fun _ h9 => h9) rfl dX6_digest_173 ?_
                                    refine lv_icmp_ge (tgt := 208) hx hb dX6_digest_176 (by decide) (fun c176 => ?_) (fun c176 => ?_)
                                    · skip
                                      have c176 : n ≤ j := (nI_leI (a := n) (b := j) (by omega) (by omega)).mp (show nI n ≤ nI j from c176)
                                      refine lv_iinc (v := nI (i + 1)) (lv' := [(3, .int (nI (i + 1))), (4, .int (nI j)), (1, .long acc7), (0, .ref mh)]) hx hb dX6_digest_208 hl (k := 1) rfl (nI_1 _) (by decide) rfl (fun ls hl => ?_)
                                      refine lv_goto (tgt := 128) hx hb dX6_digest_211 (by decide) ?_
                                      exact ih128 (i + 1) acc7 sx f139 H locs (by omega) (by omega) (by rw [ha3, show j = n from (by omega)]; rfl) (hsx) hf_mh hf_ms hFr hP hS ls (lv_sub hl [0, 2, 3] rfl)
                                    · skip
                                      have c176 : ¬ n ≤ j := fun h => c176 ((nI_leI (a := n) (b := j) (by omega) (by omega)).mpr h)
                                      refine lv_lload_n hx hb dX6_digest_179 rfl (lv_at hl 2 rfl) ?_
                                      refine lv_ldc2 (v := 31) hx hb hown (hts (.constantLong RX6 160 (31)) (by decide +kernel)) dX6_digest_180 ?_
                                      refine lv_lmul hx hb dX6_digest_183 ?_
                                      refine lv_topl (fun v183 ev183 => ?_)
                                      refine lv_aload_n hx hb dX6_digest_184 rfl (lv_at hl 3 rfl) ?_
                                      refine pg_get (C := RX6) (T := TX6) (N := 10) hx hb hts hi_X6 hown hK hP hL_mh hf_mh rfl 8 (by decide) (hts (.fieldLink RX6 28 "BarometerLeagueModel" "now" "LBarometerLeagueModel$State;") (by decide +kernel)) (fun _ h9 => h9) rfl dX6_digest_185 ?_
                                      refine pg_getN (C := RX5) (T := TX5) (N := 6) hx hb hts hi_X5 hown hK hP hL_nw hf_nw rfl 5 (by decide) (hK.nest 12 rfl) (fun _ h9 => h9) rfl dX6_digest_188 ?_
                                      refine lv_bipush (v := 8) hx hb dX6_digest_191 (by decide) ?_
                                      refine lv_iload_n hx hb dX6_digest_193 rfl (lv_at hl 1 rfl) ?_
                                      refine lv_imul hx hb dX6_digest_194 ?_
                                      refine lv_topi (fun v194 ev194 => ?_)
                                      refine lv_iload hx hb dX6_digest_195 (lv_at hl 0 rfl) ?_
                                      refine lv_iadd hx hb dX6_digest_197 ?_
                                      refine lv_topi (fun v197 ev197 => ?_)
                                      refine pn_iald (j := 8 * i + j) hx hb hK hP hL_nwt hf_nwt (ev197.trans (nat_add (ev194.trans (nat_mul rfl rfl)) rfl)) (by omega) (Nat.lt_of_lt_of_le (m := 100) (by omega) (by omega)) dX6_digest_198 ?_
                                      refine lv_i2l (v := (wt (8 * i + j)).toInt64) hx hb dX6_digest_199 rfl ?_
                                      refine lv_ladd hx hb dX6_digest_200 ?_
                                      refine lv_topl (fun v200 ev200 => ?_)
                                      refine lv_lstore_n (lv' := [(1, .long v200), (4, .int (nI j)), (3, .int (nI i)), (0, .ref mh)]) hx hb dX6_digest_201 rfl hl (by decide) rfl (fun ls hl => ?_)
                                      refine lv_iinc (v := nI (j + 1)) (lv' := [(4, .int (nI (j + 1))), (1, .long v200), (3, .int (nI i)), (0, .ref mh)]) hx hb dX6_digest_202 hl (k := 1) rfl (nI_1 _) (by decide) rfl (fun ls hl => ?_)
                                      refine lv_goto (tgt := 170) hx hb dX6_digest_205 (by decide) ?_
                                      exact ih170 (j + 1) v200 (by omega) (by omega) (by rw [ev200, ev183, ha3]; rfl) ls (lv_sub hl [0, 2, 1, 3] rfl)
                                exact K170 _ 0 acc6 (Nat.lt_succ_self _) (by omega) (ha2) ls (lv_sub hl [0, 1, 2, 3] rfl)
                              · skip
                                have c143 : ¬ 7 ≤ j := fun h => c143 ((nI_leI (a := 7) (b := j) (by omega) (by omega)).mpr h)
                                refine lv_lload_n hx hb dX6_digest_146 rfl (lv_at hl 2 rfl) ?_
                                refine lv_ldc2 (v := 31) hx hb hown (hts (.constantLong RX6 160 (31)) (by decide +kernel)) dX6_digest_147 ?_
                                refine lv_lmul hx hb dX6_digest_150 ?_
                                refine lv_topl (fun v150 ev150 => ?_)
                                refine lv_aload_n hx hb dX6_digest_151 rfl (lv_at hl 3 rfl) ?_
                                refine lv_iload_n hx hb dX6_digest_152 rfl (lv_at hl 1 rfl) ?_
                                refine lv_iload hx hb dX6_digest_153 (lv_at hl 0 rfl) ?_
                                refine rw_V (As := [.int (nI i), .int (nI j)]) (rest := [.long v150]) ⟨hx, hb, hml, hown, hts⟩ (m_X6_villageTold l g L f139 _ hN _ _ _ _ _ _ _ _ _ _ _ _ _ _ _ _ _ _ _ _ _ _ _ _ _ _ i j hL_mh hf_mh hL_mg hf_mg hL_mr hf_mr hL_mk hf_mk hL_mn hf_mn hL_ms hf_ms hL_nw hf_nw hL_np hf_np hL_nc hf_nc hL_nr hf_nr hL_nwt hf_nwt n_mk_ms n_mn_ms hn hnv hd (by omega) (by omega)) (cwV 2 hts gX6_digest_X6_villageTold rfl rfl rfl (by decide +kernel) ⟨Nat.le_of_ble_eq_true rfl, Nat.le_of_ble_eq_true rfl⟩) hK hP hA hA2 hS hL_mh hf_mh rfl rfl hl.1 rfl (Nat.le_of_ble_eq_true rfl) dX6_digest_155 ⟨Nat.zero_le _, Nat.zero_le _⟩ (fun r155 f155 H locs hr155 hP hS => ?_)
                                obtain ⟨hv155, hc155_0, hw155⟩ := hr155
                                have hf_mh : f155 mh = eO 7 [.int 0, .ref mg, .ref mr, .int (nI n), .ref mk, .ref mn, .int (nI nv), .ref ms, .ref nw, .ref ah] := hw155.get hf_mh (nm_c n_mh_ms (List.not_mem_nil))
                                have hf_mg : f155 mg = eI g 12 gl := hw155.get hf_mg (nm_c n_mg_ms (List.not_mem_nil))
                                have hf_mr : f155 mr = eI g 12 rn := hw155.get hf_mr (nm_c n_mr_ms (List.not_mem_nil))
                                have hf_mk : f155 mk = eI g 8 kd := hw155.get hf_mk (nm_c n_mk_ms (List.not_mem_nil))
                                have hf_mn : f155 mn = eI g 8 nu := hw155.get hf_mn (nm_c n_mn_ms (List.not_mem_nil))
                                have hf_nw : f155 nw = eO 6 [.int (nI d), .int ht, .ref np, .ref nc, .ref nr, .ref nwt] := hw155.get hf_nw (nm_c n_ms_nw.symm (List.not_mem_nil))
                                have hf_np : f155 np = eI g 6 pt := hw155.get hf_np (nm_c n_ms_np.symm (List.not_mem_nil))
                                have hf_nc : f155 nc = eI g 6 co := hw155.get hf_nc (nm_c n_ms_nc.symm (List.not_mem_nil))
                                have hf_nr : f155 nr = eI g 6 ro := hw155.get hf_nr (nm_c n_ms_nr.symm (List.not_mem_nil))
                                have hf_nwt : f155 nwt = eI g 48 wt := hw155.get hf_nwt (nm_c n_ms_nwt.symm (List.not_mem_nil))
                                have hf_ms : f155 ms = eI g 8 (sdM kd nu gl rn n d sx) := hc155_0
                                replace hFr : Fr f f155 [mh, ms] := hFr.tr hw155 (by simp)
                                obtain ⟨sx155, hsx155, hf_ms⟩ : ∃ z, (z = sd ∨ z = SD) ∧ f155 ms = eI g 8 z := ⟨_, Or.inr (sd_fix hsx hSD), hf_ms⟩
                                rw [sd_fix hsx hSD] at hv155
                                have hsx := hsx155
                                refine lv_i2l (v := r155.toInt64) hx hb dX6_digest_158 rfl ?_
                                refine lv_ladd hx hb dX6_digest_159 ?_
                                refine lv_topl (fun v159 ev159 => ?_)
                                refine lv_lstore_n (lv' := [(1, .long v159), (4, .int (nI j)), (3, .int (nI i)), (0, .ref mh)]) hx hb dX6_digest_160 rfl hl (by decide) rfl (fun ls hl => ?_)
                                refine lv_iinc (v := nI (j + 1)) (lv' := [(4, .int (nI (j + 1))), (1, .long v159), (3, .int (nI i)), (0, .ref mh)]) hx hb dX6_digest_161 hl (k := 1) rfl (nI_1 _) (by decide) rfl (fun ls hl => ?_)
                                refine lv_goto (tgt := 139) hx hb dX6_digest_164 (by decide) ?_
                                exact ih139 (j + 1) v159 sx155 f155 H locs (by omega) (by omega) (by rw [ev159, ev150, hv155, ha2]; rfl) (hsx) hf_mh hf_ms hFr hP hS ls (lv_sub hl [0, 2, 1, 3] rfl)
                          exact K139 _ 0 acc5 sx f128 _ _ (Nat.lt_succ_self _) (by omega) (ha) (hsx) hf_mh hf_ms hFr hP hS ls (lv_sub hl [0, 1, 2, 3] rfl)
                    exact K128 _ 0 acc3 sx f11 _ _ (Nat.lt_succ_self _) (by omega) (ha) (hsx) hf_mh hf_ms hFr hP hS ls (lv_sub hl [0, 1, 2] rfl)
                  · skip
                    have c87 : ¬ n ≤ i := fun h => c87 ((nI_leI (a := n) (b := i) (by omega) (by omega)).mpr h)
                    refine lv_iconst (v := 0) hx hb dX6_digest_90 (by decide) ?_
                    refine lv_istore (lv' := [(4, .int 0), (3, .int (nI i)), (1, .long acc3), (0, .ref mh)]) hx hb dX6_digest_91 hl (by decide) rfl (fun ls hl => ?_)
                    have K93 : ∀ (n93 : Nat) (j : Nat) (acc4 : Int64), 5 - j < n93 → j ≤ 4 → acc4 = dgN ((fun z k => toldM kd nu gl rn wt nv z k) i) (dgS (fun z k => toldM kd nu gl rn wt nv z k) 4 (dgT gl rn (dgN (fun k => countM SD pt co rn wt n nv d k) 1459 7) 12) i) j → ∀ (ls : Array Slot), lv_has ls 5 [(4, .int (nI j)), (3, .int (nI i)), (1, .long acc4), (0, .ref mh)] → W p l e ({ frames := 4, cells := 0, slots := 0, locals := 93 } : Room) s m args below meth c H locs 0 0 Q (F0 m 93 ls []) := by
                      intro n93
                      induction n93 with
                      | zero => intros; omega
                      | succ n93 ih93 =>
                        intro j acc4 hm93 hj ha2 ls hl
                        refine lv_iload hx hb dX6_digest_93 (lv_at hl 0 rfl) ?_
                        refine lv_iconst (v := 4) hx hb dX6_digest_95 (by decide) ?_
                        refine lv_icmp_ge (tgt := 120) hx hb dX6_digest_96 (by decide) (fun c96 => ?_) (fun c96 => ?_)
                        · skip
                          have c96 : 4 ≤ j := (nI_leI (a := 4) (b := j) (by omega) (by omega)).mp (show nI 4 ≤ nI j from c96)
                          refine lv_iinc (v := nI (i + 1)) (lv' := [(3, .int (nI (i + 1))), (4, .int (nI j)), (1, .long acc4), (0, .ref mh)]) hx hb dX6_digest_120 hl (k := 1) rfl (nI_1 _) (by decide) rfl (fun ls hl => ?_)
                          refine lv_goto (tgt := 82) hx hb dX6_digest_123 (by decide) ?_
                          exact ih82 (i + 1) acc4 (by omega) (by omega) (by rw [ha2, show j = 4 from (by omega)]; rfl) ls (lv_sub hl [0, 2, 3] rfl)
                        · skip
                          have c96 : ¬ 4 ≤ j := fun h => c96 ((nI_leI (a := 4) (b := j) (by omega) (by omega)).mpr h)
                          refine lv_lload_n hx hb dX6_digest_99 rfl (lv_at hl 2 rfl) ?_
                          refine lv_ldc2 (v := 31) hx hb hown (hts (.constantLong RX6 160 (31)) (by decide +kernel)) dX6_digest_100 ?_
                          refine lv_lmul hx hb dX6_digest_103 ?_
                          refine lv_topl (fun v103 ev103 => ?_)
                          refine lv_aload_n hx hb dX6_digest_104 rfl (lv_at hl 3 rfl) ?_
                          refine lv_iload_n hx hb dX6_digest_105 rfl (lv_at hl 1 rfl) ?_
                          refine lv_iload hx hb dX6_digest_106 (lv_at hl 0 rfl) ?_
                          refine ro_V (As := [.int (nI i), .int (nI j)]) (rest := [.long v103]) ⟨hx, hb, hml, hown, hts⟩ (m_X6_signTold l g L f11 _ _ _ _ _ _ _ _ _ _ _ _ _ _ _ _ _ _ _ _ _ _ i j hL_mh hf_mh hL_mg hf_mg hL_mr hf_mr hL_mk hf_mk hL_mn hf_mn hL_nw hf_nw hL_nwt hf_nwt hnv (by omega) (by omega)) (cwV 2 hts gX6_digest_X6_signTold rfl rfl rfl (by decide +kernel) ⟨Nat.le_of_ble_eq_true rfl, Nat.le_of_ble_eq_true rfl⟩) hK hP hL_mh hf_mh rfl rfl hl.1 rfl (Nat.le_of_ble_eq_true rfl) dX6_digest_108 ⟨Nat.zero_le _, Nat.zero_le _⟩ (fun r108 hr108 => ?_)
                          have hr108 : r108 = toldM kd nu gl rn wt nv i j := hr108
                          subst hr108
                          refine lv_i2l (v := (toldM kd nu gl rn wt nv i j).toInt64) hx hb dX6_digest_111 rfl ?_
                          refine lv_ladd hx hb dX6_digest_112 ?_
                          refine lv_topl (fun v112 ev112 => ?_)
                          refine lv_lstore_n (lv' := [(1, .long v112), (4, .int (nI j)), (3, .int (nI i)), (0, .ref mh)]) hx hb dX6_digest_113 rfl hl (by decide) rfl (fun ls hl => ?_)
                          refine lv_iinc (v := nI (j + 1)) (lv' := [(4, .int (nI (j + 1))), (1, .long v112), (3, .int (nI i)), (0, .ref mh)]) hx hb dX6_digest_114 hl (k := 1) rfl (nI_1 _) (by decide) rfl (fun ls hl => ?_)
                          refine lv_goto (tgt := 93) hx hb dX6_digest_117 (by decide) ?_
                          exact ih93 (j + 1) v112 (by omega) (by omega) (by rw [ev112, ev103, ha2]; rfl) ls (lv_sub hl [0, 2, 1, 3] rfl)
                    exact K93 _ 0 acc3 (Nat.lt_succ_self _) (by omega) (ha) ls (lv_sub hl [0, 1, 2, 3] rfl)
              exact K82 _ 0 acc2 (Nat.lt_succ_self _) (by omega) (ha) ls (lv_sub hl [0, 1, 2] rfl)
            · skip
              have c45 : ¬ 12 ≤ i := fun h => c45 ((nI_leI (a := 12) (b := i) (by omega) (by omega)).mpr h)
              refine lv_lload_n hx hb dX6_digest_48 rfl (lv_at hl 1 rfl) ?_
              refine lv_ldc2 (v := 31) hx hb hown (hts (.constantLong RX6 160 (31)) (by decide +kernel)) dX6_digest_49 ?_
              refine lv_lmul hx hb dX6_digest_52 ?_
              refine lv_topl (fun v52 ev52 => ?_)
              refine lv_aload_n hx hb dX6_digest_53 rfl (lv_at hl 2 rfl) ?_
              refine pg_get (C := RX6) (T := TX6) (N := 10) hx hb hts hi_X6 hown hK hP hL_mh hf_mh rfl 1 (by decide) (hts (.fieldLink RX6 9 "BarometerLeagueModel" "glass" "[I") (by decide +kernel)) (fun _ h9 => h9) rfl dX6_digest_54 ?_
              refine lv_iload_n hx hb dX6_digest_57 rfl (lv_at hl 0 rfl) ?_
              refine pn_iald (j := i) hx hb hK hP hL_mg hf_mg rfl (by omega) (Nat.lt_of_lt_of_le (m := 100) (by omega) (by omega)) dX6_digest_58 ?_
              refine lv_i2l (v := (gl i).toInt64) hx hb dX6_digest_59 rfl ?_
              refine lv_ladd hx hb dX6_digest_60 ?_
              refine lv_topl (fun v60 ev60 => ?_)
              refine lv_ldc2 (v := 31) hx hb hown (hts (.constantLong RX6 160 (31)) (by decide +kernel)) dX6_digest_61 ?_
              refine lv_lmul hx hb dX6_digest_64 ?_
              refine lv_topl (fun v64 ev64 => ?_)
              refine lv_aload_n hx hb dX6_digest_65 rfl (lv_at hl 2 rfl) ?_
              refine pg_get (C := RX6) (T := TX6) (N := 10) hx hb hts hi_X6 hown hK hP hL_mh hf_mh rfl 2 (by decide) (hts (.fieldLink RX6 13 "BarometerLeagueModel" "rains" "[I") (by decide +kernel)) (fun _ h9 => h9) rfl dX6_digest_66 ?_
              refine lv_iload_n hx hb dX6_digest_69 rfl (lv_at hl 0 rfl) ?_
              refine pn_iald (j := i) hx hb hK hP hL_mr hf_mr rfl (by omega) (Nat.lt_of_lt_of_le (m := 100) (by omega) (by omega)) dX6_digest_70 ?_
              refine lv_i2l (v := (rn i).toInt64) hx hb dX6_digest_71 rfl ?_
              refine lv_ladd hx hb dX6_digest_72 ?_
              refine lv_topl (fun v72 ev72 => ?_)
              refine lv_lstore_n (lv' := [(1, .long v72), (3, .int (nI i)), (0, .ref mh)]) hx hb dX6_digest_73 rfl hl (by decide) rfl (fun ls hl => ?_)
              refine lv_iinc (v := nI (i + 1)) (lv' := [(3, .int (nI (i + 1))), (1, .long v72), (0, .ref mh)]) hx hb dX6_digest_74 hl (k := 1) rfl (nI_1 _) (by decide) rfl (fun ls hl => ?_)
              refine lv_goto (tgt := 42) hx hb dX6_digest_77 (by decide) ?_
              exact ih42 (i + 1) v72 (by omega) (by omega) (by rw [ev72, ev64, ev60, ev52, ha]; rfl) ls (lv_sub hl [0, 1, 2] rfl)
        exact K42 _ 0 acc (Nat.lt_succ_self _) (by omega) (ha) ls (lv_sub hl [0, 1, 2] rfl)
      · skip
        have c14 : ¬ 7 ≤ i := fun h => c14 ((nI_leI (a := 7) (b := i) (by omega) (by omega)).mpr h)
        refine lv_lload_n hx hb dX6_digest_17 rfl (lv_at hl 1 rfl) ?_
        refine lv_ldc2 (v := 31) hx hb hown (hts (.constantLong RX6 160 (31)) (by decide +kernel)) dX6_digest_18 ?_
        refine lv_lmul hx hb dX6_digest_21 ?_
        refine lv_topl (fun v21 ev21 => ?_)
        refine lv_aload_n hx hb dX6_digest_22 rfl (lv_at hl 2 rfl) ?_
        refine lv_aload_n hx hb dX6_digest_23 rfl (lv_at hl 2 rfl) ?_
        refine pg_get (C := RX6) (T := TX6) (N := 10) hx hb hts hi_X6 hown hK hP hL_mh hf_mh rfl 8 (by decide) (hts (.fieldLink RX6 28 "BarometerLeagueModel" "now" "LBarometerLeagueModel$State;") (by decide +kernel)) (fun _ h9 => h9) rfl dX6_digest_24 ?_
        refine lv_iload_n hx hb dX6_digest_27 rfl (lv_at hl 0 rfl) ?_
        refine rw_V (As := [.ref nw, .int (nI i)]) (rest := [.long v21]) ⟨hx, hb, hml, hown, hts⟩ (m_X6_counted l g L f11 _ hN _ _ _ _ _ _ _ _ _ _ _ _ _ _ _ _ _ _ _ _ _ _ _ _ _ _ i hL_mh hf_mh hL_mg hf_mg hL_mr hf_mr hL_mk hf_mk hL_mn hf_mn hL_ms hf_ms hL_nw hf_nw hL_np hf_np hL_nc hf_nc hL_nwt hf_nwt n_mk_ms n_mn_ms hn hnv hd (by omega)) (cwV 2 hts gX6_digest_X6_counted rfl rfl rfl (by decide +kernel) ⟨Nat.le_of_ble_eq_true rfl, Nat.le_of_ble_eq_true rfl⟩) hK hP hA hA2 hS hL_mh hf_mh rfl rfl hl.1 rfl (Nat.le_of_ble_eq_true rfl) dX6_digest_28 ⟨Nat.zero_le _, Nat.zero_le _⟩ (fun r28 f28 H locs hr28 hP hS => ?_)
        obtain ⟨hv28, hc28_0, hw28⟩ := hr28
        have hf_mh : f28 mh = eO 7 [.int 0, .ref mg, .ref mr, .int (nI n), .ref mk, .ref mn, .int (nI nv), .ref ms, .ref nw, .ref ah] := hw28.get hf_mh (nm_c n_mh_ms (List.not_mem_nil))
        have hf_mg : f28 mg = eI g 12 gl := hw28.get hf_mg (nm_c n_mg_ms (List.not_mem_nil))
        have hf_mr : f28 mr = eI g 12 rn := hw28.get hf_mr (nm_c n_mr_ms (List.not_mem_nil))
        have hf_mk : f28 mk = eI g 8 kd := hw28.get hf_mk (nm_c n_mk_ms (List.not_mem_nil))
        have hf_mn : f28 mn = eI g 8 nu := hw28.get hf_mn (nm_c n_mn_ms (List.not_mem_nil))
        have hf_nw : f28 nw = eO 6 [.int (nI d), .int ht, .ref np, .ref nc, .ref nr, .ref nwt] := hw28.get hf_nw (nm_c n_ms_nw.symm (List.not_mem_nil))
        have hf_np : f28 np = eI g 6 pt := hw28.get hf_np (nm_c n_ms_np.symm (List.not_mem_nil))
        have hf_nc : f28 nc = eI g 6 co := hw28.get hf_nc (nm_c n_ms_nc.symm (List.not_mem_nil))
        have hf_nr : f28 nr = eI g 6 ro := hw28.get hf_nr (nm_c n_ms_nr.symm (List.not_mem_nil))
        have hf_nwt : f28 nwt = eI g 48 wt := hw28.get hf_nwt (nm_c n_ms_nwt.symm (List.not_mem_nil))
        have hf_ms : f28 ms = eI g 8 (if i = 5 then sdM kd nu gl rn n d sx else sx) := hc28_0
        replace hFr : Fr f f28 [mh, ms] := hFr.tr hw28 (by simp)
        obtain ⟨sx28, hsx28, hf_ms⟩ : ∃ z, (z = sd ∨ z = SD) ∧ f28 ms = eI g 8 z := ⟨_, sd_or hsx hSD _, hf_ms⟩
        rw [sd_fix hsx hSD] at hv28
        have hsx := hsx28
        refine lv_i2l (v := r28.toInt64) hx hb dX6_digest_31 rfl ?_
        refine lv_ladd hx hb dX6_digest_32 ?_
        refine lv_topl (fun v32 ev32 => ?_)
        refine lv_lstore_n (lv' := [(1, .long v32), (3, .int (nI i)), (0, .ref mh)]) hx hb dX6_digest_33 rfl hl (by decide) rfl (fun ls hl => ?_)
        refine lv_iinc (v := nI (i + 1)) (lv' := [(3, .int (nI (i + 1))), (1, .long v32), (0, .ref mh)]) hx hb dX6_digest_34 hl (k := 1) rfl (nI_1 _) (by decide) rfl (fun ls hl => ?_)
        refine lv_goto (tgt := 11) hx hb dX6_digest_37 (by decide) ?_
        exact ih11 (i + 1) v32 sx28 f28 H locs (by omega) (by omega) (by rw [ev32, ev21, hv28, ha]; rfl) (hsx) hf_mh hf_ms hFr hP hS ls (lv_sub hl [0, 1, 2] rfl)
  exact K11 _ 0 1459 sd f2 _ _ (Nat.lt_succ_self _) (by omega) (rfl) (Or.inl rfl) hf_mh hf_ms hFr hP hS ls (lv_sub hl [0, 1, 2] rfl)
