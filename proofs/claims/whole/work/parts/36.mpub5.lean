set_option maxHeartbeats 4000000 in
set_option maxRecDepth 100000 in
theorem m_X6_advise (l : Launch) (g : GG) (L : List Nat) (f : Nat → va_E) (sz : Nat) (hN : L.Nodup) (mh mg mr mk mn ms n nv : Nat) (th : Int32) (gl rn kd nu sd : Nat → Int32) (nw np nc nr nwt d : Nat) (ht : Int32) (pt co ro wt : Nat → Int32) (ah ap ac ar awt d2 : Nat) (h2 : Int32) (pt2 co2 ro2 wt2 : Nat → Int32) (v x : Int32) (hL_mh : mh ∈ L) (hf_mh : f mh = eO 7 [.int th, .ref mg, .ref mr, .int (nI n), .ref mk, .ref mn, .int (nI nv), .ref ms, .ref nw, .ref ah]) (hL_mg : mg ∈ L) (hf_mg : f mg = eI g 12 gl) (hL_mr : mr ∈ L) (hf_mr : f mr = eI g 12 rn) (hL_mk : mk ∈ L) (hf_mk : f mk = eI g 8 kd) (hL_mn : mn ∈ L) (hf_mn : f mn = eI g 8 nu) (hL_ms : ms ∈ L) (hf_ms : f ms = eI g 8 sd) (hL_nw : nw ∈ L) (hf_nw : f nw = eO 6 [.int (nI d), .int ht, .ref np, .ref nc, .ref nr, .ref nwt]) (hL_np : np ∈ L) (hf_np : f np = eI g 6 pt) (hL_nc : nc ∈ L) (hf_nc : f nc = eI g 6 co) (hL_nr : nr ∈ L) (hf_nr : f nr = eI g 6 ro) (hL_nwt : nwt ∈ L) (hf_nwt : f nwt = eI g 48 wt) (hL_ah : ah ∈ L) (hf_ah : f ah = eO 6 [.int (nI d2), .int h2, .ref ap, .ref ac, .ref ar, .ref awt]) (hL_ap : ap ∈ L) (hf_ap : f ap = eI g 6 pt2) (hL_ac : ac ∈ L) (hf_ac : f ac = eI g 6 co2) (hL_ar : ar ∈ L) (hf_ar : f ar = eI g 6 ro2) (hL_awt : awt ∈ L) (hf_awt : f awt = eI g 48 wt2) (n_mk_ms : mk ≠ ms) (n_mn_ms : mn ≠ ms) (n_ah_nw : ah ≠ nw) (n_ap_ac : ap ≠ ac) (n_ap_ar : ap ≠ ar) (n_ac_ar : ac ≠ ar) (n_awt_nwt : awt ≠ nwt) (n_ap_np : ap ≠ np) (n_ap_nc : ap ≠ nc) (n_ap_nr : ap ≠ nr) (n_ac_np : ac ≠ np) (n_ac_nc : ac ≠ nc) (n_ac_nr : ac ≠ nr) (n_ar_np : ar ≠ np) (n_ar_nc : ar ≠ nc) (n_ar_nr : ar ≠ nr) (hn : n ≤ 8) (hnv : nv ≤ 6) (hd : d + 130 < 2 ^ 30) : RW l g yX6_advise wsX6_advise 4 94 L f sz [.ref mh, .int v, .int x] (fun r f2 => ((inB v nv = false ∧ f2 mh = eO 7 [.int 1, .ref mg, .ref mr, .int (nI n), .ref mk, .ref mn, .int (nI nv), .ref ms, .ref nw, .ref ah] ∧ f2 ms = eI g 8 sd ∧ f2 ah = eO 6 [.int (nI d2), .int h2, .ref ap, .ref ac, .ref ar, .ref awt] ∧ f2 ap = eI g 6 pt2 ∧ f2 ac = eI g 6 co2 ∧ f2 ar = eI g 6 ro2 ∧ f2 awt = eI g 48 wt2) ∨ (inB v nv = true ∧ decide ((1 : Int32) ≤ x ∧ x ≤ nI 60) = false ∧ f2 mh = eO 7 [.int 2, .ref mg, .ref mr, .int (nI n), .ref mk, .ref mn, .int (nI nv), .ref ms, .ref nw, .ref ah] ∧ f2 ms = eI g 8 sd ∧ f2 ah = eO 6 [.int (nI d2), .int h2, .ref ap, .ref ac, .ref ar, .ref awt] ∧ f2 ap = eI g 6 pt2 ∧ f2 ac = eI g 6 co2 ∧ f2 ar = eI g 6 ro2 ∧ f2 awt = eI g 48 wt2) ∨ ∃ u k, u < nv ∧ v = nI u ∧ 1 ≤ k ∧ k ≤ 60 ∧ x = nI k ∧ r = (advF (advP kd nu gl rn n nv d ht pt co ro wt u k) n).2 ∧ f2 mh = eO 7 [.int 0, .ref mg, .ref mr, .int (nI n), .ref mk, .ref mn, .int (nI nv), .ref ms, .ref nw, .ref ah] ∧ ∃ sdx d2x h2x ptx cox rox wtx, f2 ms = eI g 8 sdx ∧ f2 ah = eO 6 [.int (nI d2x), .int h2x, .ref ap, .ref ac, .ref ar, .ref awt] ∧ f2 ap = eI g 6 ptx ∧ f2 ac = eI g 6 cox ∧ f2 ar = eI g 6 rox ∧ f2 awt = eI g 48 wtx) ∧ Fr f f2 [mh, ms, ah, ap, ac, ar, awt]) := by
  refine RW.start (cc := cX6_advise) (maxL := 7) (ret := .int) (by decide +kernel) rfl (by simp [lg_sl, Value.category]) ?_
  intro p e s m args below meth c Q ls A hx hb hml hts hown hA hA2 hS hP hK hl hend
  have hl : lv_has ls 7 [(0, .ref mh), (1, .int v), (2, .int x)] := hl
  have hi_X5 : ∀ w ∈ u_ws RX5 TX5 6, w ∈ wsX6_advise := by decide +kernel
  have hi_X6 : ∀ w ∈ u_ws RX6 TX6 10, w ∈ wsX6_advise := by decide +kernel
  have hFr : Fr f f [mh, ms, ah, ap, ac, ar, awt] := Fr.rf
  have n_mh_mg : mh ≠ mg := ne_e hf_mh hf_mg (by simp)
  have n_mh_mr : mh ≠ mr := ne_e hf_mh hf_mr (by simp)
  have n_mh_mk : mh ≠ mk := ne_e hf_mh hf_mk (by simp)
  have n_mh_mn : mh ≠ mn := ne_e hf_mh hf_mn (by simp)
  have n_mh_ms : mh ≠ ms := ne_e hf_mh hf_ms (by simp)
  have n_mh_nw : mh ≠ nw := ne_e hf_mh hf_nw (by simp)
  have n_mh_np : mh ≠ np := ne_e hf_mh hf_np (by simp)
  have n_mh_nc : mh ≠ nc := ne_e hf_mh hf_nc (by simp)
  have n_mh_nr : mh ≠ nr := ne_e hf_mh hf_nr (by simp)
  have n_mh_nwt : mh ≠ nwt := ne_e hf_mh hf_nwt (by simp)
  have n_mh_ah : mh ≠ ah := ne_e hf_mh hf_ah (by simp)
  have n_mh_ap : mh ≠ ap := ne_e hf_mh hf_ap (by simp)
  have n_mh_ac : mh ≠ ac := ne_e hf_mh hf_ac (by simp)
  have n_mh_ar : mh ≠ ar := ne_e hf_mh hf_ar (by simp)
  have n_mh_awt : mh ≠ awt := ne_e hf_mh hf_awt (by simp)
  have n_mg_mk : mg ≠ mk := ne_e hf_mg hf_mk (by simp)
  have n_mg_mn : mg ≠ mn := ne_e hf_mg hf_mn (by simp)
  have n_mg_ms : mg ≠ ms := ne_e hf_mg hf_ms (by simp)
  have n_mg_nw : mg ≠ nw := ne_e hf_mg hf_nw (by simp)
  have n_mg_np : mg ≠ np := ne_e hf_mg hf_np (by simp)
  have n_mg_nc : mg ≠ nc := ne_e hf_mg hf_nc (by simp)
  have n_mg_nr : mg ≠ nr := ne_e hf_mg hf_nr (by simp)
  have n_mg_nwt : mg ≠ nwt := ne_e hf_mg hf_nwt (by simp)
  have n_mg_ah : mg ≠ ah := ne_e hf_mg hf_ah (by simp)
  have n_mg_ap : mg ≠ ap := ne_e hf_mg hf_ap (by simp)
  have n_mg_ac : mg ≠ ac := ne_e hf_mg hf_ac (by simp)
  have n_mg_ar : mg ≠ ar := ne_e hf_mg hf_ar (by simp)
  have n_mg_awt : mg ≠ awt := ne_e hf_mg hf_awt (by simp)
  have n_mr_mk : mr ≠ mk := ne_e hf_mr hf_mk (by simp)
  have n_mr_mn : mr ≠ mn := ne_e hf_mr hf_mn (by simp)
  have n_mr_ms : mr ≠ ms := ne_e hf_mr hf_ms (by simp)
  have n_mr_nw : mr ≠ nw := ne_e hf_mr hf_nw (by simp)
  have n_mr_np : mr ≠ np := ne_e hf_mr hf_np (by simp)
  have n_mr_nc : mr ≠ nc := ne_e hf_mr hf_nc (by simp)
  have n_mr_nr : mr ≠ nr := ne_e hf_mr hf_nr (by simp)
  have n_mr_nwt : mr ≠ nwt := ne_e hf_mr hf_nwt (by simp)
  have n_mr_ah : mr ≠ ah := ne_e hf_mr hf_ah (by simp)
  have n_mr_ap : mr ≠ ap := ne_e hf_mr hf_ap (by simp)
  have n_mr_ac : mr ≠ ac := ne_e hf_mr hf_ac (by simp)
  have n_mr_ar : mr ≠ ar := ne_e hf_mr hf_ar (by simp)
  have n_mr_awt : mr ≠ awt := ne_e hf_mr hf_awt (by simp)
  have n_mk_nw : mk ≠ nw := ne_e hf_mk hf_nw (by simp)
  have n_mk_np : mk ≠ np := ne_e hf_mk hf_np (by simp)
  have n_mk_nc : mk ≠ nc := ne_e hf_mk hf_nc (by simp)
  have n_mk_nr : mk ≠ nr := ne_e hf_mk hf_nr (by simp)
  have n_mk_nwt : mk ≠ nwt := ne_e hf_mk hf_nwt (by simp)
  have n_mk_ah : mk ≠ ah := ne_e hf_mk hf_ah (by simp)
  have n_mk_ap : mk ≠ ap := ne_e hf_mk hf_ap (by simp)
  have n_mk_ac : mk ≠ ac := ne_e hf_mk hf_ac (by simp)
  have n_mk_ar : mk ≠ ar := ne_e hf_mk hf_ar (by simp)
  have n_mk_awt : mk ≠ awt := ne_e hf_mk hf_awt (by simp)
  have n_mn_nw : mn ≠ nw := ne_e hf_mn hf_nw (by simp)
  have n_mn_np : mn ≠ np := ne_e hf_mn hf_np (by simp)
  have n_mn_nc : mn ≠ nc := ne_e hf_mn hf_nc (by simp)
  have n_mn_nr : mn ≠ nr := ne_e hf_mn hf_nr (by simp)
  have n_mn_nwt : mn ≠ nwt := ne_e hf_mn hf_nwt (by simp)
  have n_mn_ah : mn ≠ ah := ne_e hf_mn hf_ah (by simp)
  have n_mn_ap : mn ≠ ap := ne_e hf_mn hf_ap (by simp)
  have n_mn_ac : mn ≠ ac := ne_e hf_mn hf_ac (by simp)
  have n_mn_ar : mn ≠ ar := ne_e hf_mn hf_ar (by simp)
  have n_mn_awt : mn ≠ awt := ne_e hf_mn hf_awt (by simp)
  have n_ms_nw : ms ≠ nw := ne_e hf_ms hf_nw (by simp)
  have n_ms_np : ms ≠ np := ne_e hf_ms hf_np (by simp)
  have n_ms_nc : ms ≠ nc := ne_e hf_ms hf_nc (by simp)
  have n_ms_nr : ms ≠ nr := ne_e hf_ms hf_nr (by simp)
  have n_ms_nwt : ms ≠ nwt := ne_e hf_ms hf_nwt (by simp)
  have n_ms_ah : ms ≠ ah := ne_e hf_ms hf_ah (by simp)
  have n_ms_ap : ms ≠ ap := ne_e hf_ms hf_ap (by simp)
  have n_ms_ac : ms ≠ ac := ne_e hf_ms hf_ac (by simp)
  have n_ms_ar : ms ≠ ar := ne_e hf_ms hf_ar (by simp)
  have n_ms_awt : ms ≠ awt := ne_e hf_ms hf_awt (by simp)
  have n_nw_np : nw ≠ np := ne_e hf_nw hf_np (by simp)
  have n_nw_nc : nw ≠ nc := ne_e hf_nw hf_nc (by simp)
  have n_nw_nr : nw ≠ nr := ne_e hf_nw hf_nr (by simp)
  have n_nw_nwt : nw ≠ nwt := ne_e hf_nw hf_nwt (by simp)
  have n_nw_ap : nw ≠ ap := ne_e hf_nw hf_ap (by simp)
  have n_nw_ac : nw ≠ ac := ne_e hf_nw hf_ac (by simp)
  have n_nw_ar : nw ≠ ar := ne_e hf_nw hf_ar (by simp)
  have n_nw_awt : nw ≠ awt := ne_e hf_nw hf_awt (by simp)
  have n_np_nwt : np ≠ nwt := ne_e hf_np hf_nwt (by simp)
  have n_np_ah : np ≠ ah := ne_e hf_np hf_ah (by simp)
  have n_np_awt : np ≠ awt := ne_e hf_np hf_awt (by simp)
  have n_nc_nwt : nc ≠ nwt := ne_e hf_nc hf_nwt (by simp)
  have n_nc_ah : nc ≠ ah := ne_e hf_nc hf_ah (by simp)
  have n_nc_awt : nc ≠ awt := ne_e hf_nc hf_awt (by simp)
  have n_nr_nwt : nr ≠ nwt := ne_e hf_nr hf_nwt (by simp)
  have n_nr_ah : nr ≠ ah := ne_e hf_nr hf_ah (by simp)
  have n_nr_awt : nr ≠ awt := ne_e hf_nr hf_awt (by simp)
  have n_nwt_ah : nwt ≠ ah := ne_e hf_nwt hf_ah (by simp)
  have n_nwt_ap : nwt ≠ ap := ne_e hf_nwt hf_ap (by simp)
  have n_nwt_ac : nwt ≠ ac := ne_e hf_nwt hf_ac (by simp)
  have n_nwt_ar : nwt ≠ ar := ne_e hf_nwt hf_ar (by simp)
  have n_ah_ap : ah ≠ ap := ne_e hf_ah hf_ap (by simp)
  have n_ah_ac : ah ≠ ac := ne_e hf_ah hf_ac (by simp)
  have n_ah_ar : ah ≠ ar := ne_e hf_ah hf_ar (by simp)
  have n_ah_awt : ah ≠ awt := ne_e hf_ah hf_awt (by simp)
  have n_ap_awt : ap ≠ awt := ne_e hf_ap hf_awt (by simp)
  have n_ac_awt : ac ≠ awt := ne_e hf_ac hf_awt (by simp)
  have n_ar_awt : ar ≠ awt := ne_e hf_ar hf_awt (by simp)
  have h0f_mh := hf_mh
  have h0f_mg := hf_mg
  have h0f_mr := hf_mr
  have h0f_mk := hf_mk
  have h0f_mn := hf_mn
  have h0f_ms := hf_ms
  have h0f_nw := hf_nw
  have h0f_np := hf_np
  have h0f_nc := hf_nc
  have h0f_nr := hf_nr
  have h0f_nwt := hf_nwt
  have h0f_ah := hf_ah
  have h0f_ap := hf_ap
  have h0f_ac := hf_ac
  have h0f_ar := hf_ar
  have h0f_awt := hf_awt
  refine lv_aload_n hx hb dX6_advise_0 rfl (lv_at hl 0 rfl) ?_
  refine lv_iconst (v := 0) hx hb dX6_advise_1 (by decide) ?_
  refine pg_put (ty := .int) (C := RX6) (T := TX6) (N := 10) hx hb hts hi_X6 tyX6 tyX6_ok nmX6 hown hK hP hN hA hS hL_mh hf_mh rfl 0 (by decide) (hts (.fieldLink RX6 41 "BarometerLeagueModel" "thrown" "I") (by decide +kernel)) (fun _ h9 => h9) rfl (by decide +kernel) rfl rfl (Nat.le_of_ble_eq_true rfl) dX6_advise_2 (fun H locs hP hS => ?_)
  obtain ⟨f2, ef2⟩ : ∃ z, z = va_up f mh (eO 7 [.int 0, .ref mg, .ref mr, .int (nI n), .ref mk, .ref mn, .int (nI nv), .ref ms, .ref nw, .ref ah]) := ⟨_, rfl⟩
  replace hP : PP g L f2 H := by rw [ef2]; exact hP
  have hf_mg : f2 mg = eI g 12 gl := by rw [ef2, va_up_ne _ _ n_mh_mg.symm]; exact hf_mg
  have hf_mr : f2 mr = eI g 12 rn := by rw [ef2, va_up_ne _ _ n_mh_mr.symm]; exact hf_mr
  have hf_mk : f2 mk = eI g 8 kd := by rw [ef2, va_up_ne _ _ n_mh_mk.symm]; exact hf_mk
  have hf_mn : f2 mn = eI g 8 nu := by rw [ef2, va_up_ne _ _ n_mh_mn.symm]; exact hf_mn
  have hf_ms : f2 ms = eI g 8 sd := by rw [ef2, va_up_ne _ _ n_mh_ms.symm]; exact hf_ms
  have hf_nw : f2 nw = eO 6 [.int (nI d), .int ht, .ref np, .ref nc, .ref nr, .ref nwt] := by rw [ef2, va_up_ne _ _ n_mh_nw.symm]; exact hf_nw
  have hf_np : f2 np = eI g 6 pt := by rw [ef2, va_up_ne _ _ n_mh_np.symm]; exact hf_np
  have hf_nc : f2 nc = eI g 6 co := by rw [ef2, va_up_ne _ _ n_mh_nc.symm]; exact hf_nc
  have hf_nr : f2 nr = eI g 6 ro := by rw [ef2, va_up_ne _ _ n_mh_nr.symm]; exact hf_nr
  have hf_nwt : f2 nwt = eI g 48 wt := by rw [ef2, va_up_ne _ _ n_mh_nwt.symm]; exact hf_nwt
  have hf_ah : f2 ah = eO 6 [.int (nI d2), .int h2, .ref ap, .ref ac, .ref ar, .ref awt] := by rw [ef2, va_up_ne _ _ n_mh_ah.symm]; exact hf_ah
  have hf_ap : f2 ap = eI g 6 pt2 := by rw [ef2, va_up_ne _ _ n_mh_ap.symm]; exact hf_ap
  have hf_ac : f2 ac = eI g 6 co2 := by rw [ef2, va_up_ne _ _ n_mh_ac.symm]; exact hf_ac
  have hf_ar : f2 ar = eI g 6 ro2 := by rw [ef2, va_up_ne _ _ n_mh_ar.symm]; exact hf_ar
  have hf_awt : f2 awt = eI g 48 wt2 := by rw [ef2, va_up_ne _ _ n_mh_awt.symm]; exact hf_awt
  have hf_mh : f2 mh = eO 7 [.int 0, .ref mg, .ref mr, .int (nI n), .ref mk, .ref mn, .int (nI nv), .ref ms, .ref nw, .ref ah] := by rw [ef2]; exact va_up_self _ _ _
  replace hFr : Fr f f2 [mh, ms, ah, ap, ac, ar, awt] := by rw [ef2]; exact hFr.up (by simp)
  refine lv_aload_n hx hb dX6_advise_5 rfl (lv_at hl 0 rfl) ?_
  refine lv_iload_n hx hb dX6_advise_6 rfl (lv_at hl 1 rfl) ?_
  refine ro_V (As := [.int v]) (rest := []) ⟨hx, hb, hml, hown, hts⟩ (m_X6_isVillage l g L f2 _ _ _ _ _ _ _ _ _ _ _ v hL_mh hf_mh (by assumption) (by assumption)) (cwV 1 hts gX6_advise_X6_isVillage rfl rfl rfl (by decide +kernel) ⟨Nat.le_of_ble_eq_true rfl, Nat.le_of_ble_eq_true rfl⟩) hK hP hL_mh hf_mh rfl rfl hl.1 rfl (Nat.le_of_ble_eq_true rfl) dX6_advise_7 ⟨Nat.zero_le _, Nat.zero_le _⟩ (fun r7 hr7 => ?_)
  have hr7 : r7 = b2i (inB v nv) := hr7
  subst hr7
  refine lv_if_ne (tgt := 19) hx hb dX6_advise_10 (by decide) (fun c10 => ?_) (fun c10 => ?_)
  · skip
    refine lv_iload_n hx hb dX6_advise_19 rfl (lv_at hl 2 rfl) ?_
    refine lv_iconst (v := 1) hx hb dX6_advise_20 (by decide) ?_
    refine lv_bipush (v := 60) hx hb dX6_advise_21 (by decide) ?_
    refine ro_S (As := [.int x, .int 1, .int 60]) (rest := []) ⟨hx, hb, hml, hown, hts⟩ (m_X6_isIn l g L f2 x _ _ ) (va_cwS 3 hts gX6_advise_X6_isIn rfl rfl rfl (by decide +kernel) ⟨Nat.le_of_ble_eq_true rfl, Nat.le_of_ble_eq_true rfl⟩) hK hP rfl hl.1 rfl (Nat.le_of_ble_eq_true rfl) dX6_advise_23 ⟨Nat.zero_le _, Nat.zero_le _⟩ (fun r23 hr23 => ?_)
    have hr23 : r23 = b2i (decide (1 ≤ x ∧ x ≤ 60)) := hr23
    subst hr23
    refine lv_if_ne (tgt := 35) hx hb dX6_advise_26 (by decide) (fun c26 => ?_) (fun c26 => ?_)
    · skip
      obtain ⟨u, hu, rfl⟩ := inB_of (nz_t c10) (by omega)
      obtain ⟨k, hk1, hk2, rfl⟩ := dy_in (k := 60) (by omega) (nz_t c26)
      obtain ⟨P, hPd⟩ : ∃ P, P = (advP kd nu gl rn n nv d ht pt co ro wt u k) := ⟨_, rfl⟩
      refine lv_aload_n hx hb dX6_advise_35 rfl (lv_at hl 0 rfl) ?_
      refine lv_aload_n hx hb dX6_advise_36 rfl (lv_at hl 0 rfl) ?_
      refine rf_V (As := []) (rest := [.ref mh]) ⟨hx, hb, hml, hown, hts⟩ (m_X6_lookAhead l g L f2 _ hN _ _ _ _ _ _ _ _ _ _ _ _ _ _ _ _ _ _ _ _ _ _ _ _ _ _ _ _ _ _ _ hL_mh hf_mh hL_nw hf_nw hL_np hf_np hL_nc hf_nc hL_nr hf_nr hL_nwt hf_nwt hL_ah hf_ah hL_ap hf_ap hL_ac hf_ac hL_ar hf_ar hL_awt hf_awt n_ah_nw n_ap_ac n_ap_ar n_ac_ar n_awt_nwt n_ap_np n_ap_nc n_ap_nr n_ac_np n_ac_nc n_ac_nr n_ar_np n_ar_nc n_ar_nr) (cwV 0 hts gX6_advise_X6_lookAhead rfl rfl rfl (by decide +kernel) ⟨Nat.le_of_ble_eq_true rfl, Nat.le_of_ble_eq_true rfl⟩) hK hP hA hA2 hS hL_mh hf_mh rfl rfl hl.1 rfl (Nat.le_of_ble_eq_true rfl) dX6_advise_37 ⟨Nat.zero_le _, Nat.zero_le _⟩ (fun f37 H locs hr37 hP hS => ?_)
      obtain ⟨hc37_0, hc37_1, hc37_2, hc37_3, hc37_4, hw37⟩ := hr37
      have hf_mh : f37 mh = eO 7 [.int 0, .ref mg, .ref mr, .int (nI n), .ref mk, .ref mn, .int (nI nv), .ref ms, .ref nw, .ref ah] := hw37.get hf_mh (nm_c n_mh_ah (nm_c n_mh_ap (nm_c n_mh_ac (nm_c n_mh_ar (nm_c n_mh_awt (List.not_mem_nil))))))
      have hf_mg : f37 mg = eI g 12 gl := hw37.get hf_mg (nm_c n_mg_ah (nm_c n_mg_ap (nm_c n_mg_ac (nm_c n_mg_ar (nm_c n_mg_awt (List.not_mem_nil))))))
      have hf_mr : f37 mr = eI g 12 rn := hw37.get hf_mr (nm_c n_mr_ah (nm_c n_mr_ap (nm_c n_mr_ac (nm_c n_mr_ar (nm_c n_mr_awt (List.not_mem_nil))))))
      have hf_mk : f37 mk = eI g 8 kd := hw37.get hf_mk (nm_c n_mk_ah (nm_c n_mk_ap (nm_c n_mk_ac (nm_c n_mk_ar (nm_c n_mk_awt (List.not_mem_nil))))))
      have hf_mn : f37 mn = eI g 8 nu := hw37.get hf_mn (nm_c n_mn_ah (nm_c n_mn_ap (nm_c n_mn_ac (nm_c n_mn_ar (nm_c n_mn_awt (List.not_mem_nil))))))
      have hf_ms : f37 ms = eI g 8 sd := hw37.get hf_ms (nm_c n_ms_ah (nm_c n_ms_ap (nm_c n_ms_ac (nm_c n_ms_ar (nm_c n_ms_awt (List.not_mem_nil))))))
      have hf_nw : f37 nw = eO 6 [.int (nI d), .int ht, .ref np, .ref nc, .ref nr, .ref nwt] := hw37.get hf_nw (nm_c n_ah_nw.symm (nm_c n_nw_ap (nm_c n_nw_ac (nm_c n_nw_ar (nm_c n_nw_awt (List.not_mem_nil))))))
      have hf_np : f37 np = eI g 6 pt := hw37.get hf_np (nm_c n_np_ah (nm_c n_ap_np.symm (nm_c n_ac_np.symm (nm_c n_ar_np.symm (nm_c n_np_awt (List.not_mem_nil))))))
      have hf_nc : f37 nc = eI g 6 co := hw37.get hf_nc (nm_c n_nc_ah (nm_c n_ap_nc.symm (nm_c n_ac_nc.symm (nm_c n_ar_nc.symm (nm_c n_nc_awt (List.not_mem_nil))))))
      have hf_nr : f37 nr = eI g 6 ro := hw37.get hf_nr (nm_c n_nr_ah (nm_c n_ap_nr.symm (nm_c n_ac_nr.symm (nm_c n_ar_nr.symm (nm_c n_nr_awt (List.not_mem_nil))))))
      have hf_nwt : f37 nwt = eI g 48 wt := hw37.get hf_nwt (nm_c n_nwt_ah (nm_c n_nwt_ap (nm_c n_nwt_ac (nm_c n_nwt_ar (nm_c n_awt_nwt.symm (List.not_mem_nil))))))
      have hf_ah : f37 ah = eO 6 [.int (nI d), .int ht, .ref ap, .ref ac, .ref ar, .ref awt] := hc37_0
      have hf_ap : f37 ap = eI g 6 pt := hc37_1
      have hf_ac : f37 ac = eI g 6 co := hc37_2
      have hf_ar : f37 ar = eI g 6 ro := hc37_3
      have hf_awt : f37 awt = eI g 48 wt := hc37_4
      replace hFr : Fr f f37 [mh, ms, ah, ap, ac, ar, awt] := hFr.tr hw37 (by simp)
      refine lv_iload_n hx hb dX6_advise_40 rfl (lv_at hl 2 rfl) ?_
      refine rf_V (As := [.ref ah, .int (nI k)]) (rest := []) ⟨hx, hb, hml, hown, hts⟩ (m_X6_passAll l g L f37 _ hN _ _ _ _ _ _ _ _ _ _ _ _ _ _ _ _ _ _ _ _ _ _ _ _ _ _ _ k hL_mh hf_mh hL_mg hf_mg hL_mr hf_mr hL_mk hf_mk hL_mn hf_mn hL_ms hf_ms hL_ah hf_ah hL_ap hf_ap hL_ac hf_ac hL_ar hf_ar hL_awt hf_awt n_mk_ms n_mn_ms n_ap_ac n_ap_ar n_ac_ar hn hnv (by omega)) (cwV 2 hts gX6_advise_X6_passAll rfl rfl rfl (by decide +kernel) ⟨Nat.le_of_ble_eq_true rfl, Nat.le_of_ble_eq_true rfl⟩) hK hP hA hA2 hS hL_mh hf_mh rfl rfl hl.1 rfl (Nat.le_of_ble_eq_true rfl) dX6_advise_41 ⟨Nat.zero_le _, Nat.zero_le _⟩ (fun f41 H locs hr41 hP hS => ?_)
      obtain ⟨hc41_0, hc41_1, hc41_2, hc41_3, hc41_4, hc41_5, hw41⟩ := hr41
      have hf_mh : f41 mh = eO 7 [.int 0, .ref mg, .ref mr, .int (nI n), .ref mk, .ref mn, .int (nI nv), .ref ms, .ref nw, .ref ah] := hw41.get hf_mh (nm_c n_mh_ms (nm_c n_mh_ah (nm_c n_mh_ap (nm_c n_mh_ac (nm_c n_mh_ar (nm_c n_mh_awt (List.not_mem_nil)))))))
      have hf_mg : f41 mg = eI g 12 gl := hw41.get hf_mg (nm_c n_mg_ms (nm_c n_mg_ah (nm_c n_mg_ap (nm_c n_mg_ac (nm_c n_mg_ar (nm_c n_mg_awt (List.not_mem_nil)))))))
      have hf_mr : f41 mr = eI g 12 rn := hw41.get hf_mr (nm_c n_mr_ms (nm_c n_mr_ah (nm_c n_mr_ap (nm_c n_mr_ac (nm_c n_mr_ar (nm_c n_mr_awt (List.not_mem_nil)))))))
      have hf_mk : f41 mk = eI g 8 kd := hw41.get hf_mk (nm_c n_mk_ms (nm_c n_mk_ah (nm_c n_mk_ap (nm_c n_mk_ac (nm_c n_mk_ar (nm_c n_mk_awt (List.not_mem_nil)))))))
      have hf_mn : f41 mn = eI g 8 nu := hw41.get hf_mn (nm_c n_mn_ms (nm_c n_mn_ah (nm_c n_mn_ap (nm_c n_mn_ac (nm_c n_mn_ar (nm_c n_mn_awt (List.not_mem_nil)))))))
      have hf_nw : f41 nw = eO 6 [.int (nI d), .int ht, .ref np, .ref nc, .ref nr, .ref nwt] := hw41.get hf_nw (nm_c n_ms_nw.symm (nm_c n_ah_nw.symm (nm_c n_nw_ap (nm_c n_nw_ac (nm_c n_nw_ar (nm_c n_nw_awt (List.not_mem_nil)))))))
      have hf_np : f41 np = eI g 6 pt := hw41.get hf_np (nm_c n_ms_np.symm (nm_c n_np_ah (nm_c n_ap_np.symm (nm_c n_ac_np.symm (nm_c n_ar_np.symm (nm_c n_np_awt (List.not_mem_nil)))))))
      have hf_nc : f41 nc = eI g 6 co := hw41.get hf_nc (nm_c n_ms_nc.symm (nm_c n_nc_ah (nm_c n_ap_nc.symm (nm_c n_ac_nc.symm (nm_c n_ar_nc.symm (nm_c n_nc_awt (List.not_mem_nil)))))))
      have hf_nr : f41 nr = eI g 6 ro := hw41.get hf_nr (nm_c n_ms_nr.symm (nm_c n_nr_ah (nm_c n_ap_nr.symm (nm_c n_ac_nr.symm (nm_c n_ar_nr.symm (nm_c n_nr_awt (List.not_mem_nil)))))))
      have hf_nwt : f41 nwt = eI g 48 wt := hw41.get hf_nwt (nm_c n_ms_nwt.symm (nm_c n_nwt_ah (nm_c n_nwt_ap (nm_c n_nwt_ac (nm_c n_nwt_ar (nm_c n_awt_nwt.symm (List.not_mem_nil)))))))
      have hf_ms : f41 ms = eI g 8 ((itM kd nu gl rn n nv (sd, d, ht, pt, co, ro, wt) k).1) := hc41_0
      have hf_ah : f41 ah = eO 6 [.int (nI ((itM kd nu gl rn n nv (sd, d, ht, pt, co, ro, wt) k).2.1)), .int ((itM kd nu gl rn n nv (sd, d, ht, pt, co, ro, wt) k).2.2.1), .ref ap, .ref ac, .ref ar, .ref awt] := hc41_1
      have hf_ap : f41 ap = eI g 6 ((itM kd nu gl rn n nv (sd, d, ht, pt, co, ro, wt) k).2.2.2.1) := hc41_2
      have hf_ac : f41 ac = eI g 6 ((itM kd nu gl rn n nv (sd, d, ht, pt, co, ro, wt) k).2.2.2.2.1) := hc41_3
      have hf_ar : f41 ar = eI g 6 ((itM kd nu gl rn n nv (sd, d, ht, pt, co, ro, wt) k).2.2.2.2.2.1) := hc41_4
      have hf_awt : f41 awt = eI g 48 ((itM kd nu gl rn n nv (sd, d, ht, pt, co, ro, wt) k).2.2.2.2.2.2) := hc41_5
      replace hFr : Fr f f41 [mh, ms, ah, ap, ac, ar, awt] := hFr.tr hw41 (by simp)
      refine pg_getN (C := RX5) (T := TX5) (N := 6) hx hb hts hi_X5 hown hK hP hL_ah hf_ah rfl 2 (by decide) (hK.nest 9 rfl) (fun _ h9 => h9) rfl dX6_advise_44 ?_
      refine lv_iload_n hx hb dX6_advise_47 rfl (lv_at hl 1 rfl) ?_
      refine pn_iald (j := u) hx hb hK hP hL_ap hf_ap rfl (by omega) (Nat.lt_of_lt_of_le (m := 100) (by omega) (by omega)) dX6_advise_48 ?_
      have e49 : ((itM kd nu gl rn n nv (sd, d, ht, pt, co, ro, wt) k).2.2.2.1) u = P 0 := by rw [hPd]; exact advP_0 sd
      rw [e49]
      refine lv_istore_n (lv' := [(3, .int (P 0)), (0, .ref mh), (1, .int (nI u)), (2, .int (nI k))]) hx hb dX6_advise_49 rfl hl (by decide) rfl (fun ls hl => ?_)
      refine lv_iconst (v := (-1)) hx hb dX6_advise_50 (by decide) ?_
      refine lv_istore (lv' := [(4, .int (-1)), (3, .int (P 0)), (0, .ref mh), (1, .int (nI u)), (2, .int (nI k))]) hx hb dX6_advise_51 hl (by decide) rfl (fun ls hl => ?_)
      refine lv_iconst (v := 0) hx hb dX6_advise_53 (by decide) ?_
      refine lv_istore (lv' := [(5, .int 0), (4, .int (-1)), (3, .int (P 0)), (0, .ref mh), (1, .int (nI u)), (2, .int (nI k))]) hx hb dX6_advise_54 hl (by decide) rfl (fun ls hl => ?_)
      have K56 : ∀ (n56 : Nat) (i : Nat) (mo : Int32) (be : Int32) (sdx : Nat → Int32) (d2x : Nat) (h2x : Int32) (ptx : Nat → Int32) (cox : Nat → Int32) (rox : Nat → Int32) (wtx : Nat → Int32) (f56 : Nat → va_E) (H : Heap) (locs : List Loc), n - i < n56 → i ≤ n → mo = (advF P i).1 → be = (advF P i).2 → f56 ms = eI g 8 sdx → f56 ah = eO 6 [.int (nI d2x), .int h2x, .ref ap, .ref ac, .ref ar, .ref awt] → f56 ap = eI g 6 ptx → f56 ac = eI g 6 cox → f56 ar = eI g 6 rox → f56 awt = eI g 48 wtx → f56 mh = eO 7 [.int 0, .ref mg, .ref mr, .int (nI n), .ref mk, .ref mn, .int (nI nv), .ref ms, .ref nw, .ref ah] → Fr f f56 [mh, ms, ah, ap, ac, ar, awt] → PP g L f56 H → va_S A s.heap H locs → ∀ (ls : Array Slot), lv_has ls 7 [(5, .int (nI i)), (4, .int be), (3, .int mo), (2, .int (nI k)), (1, .int (nI u)), (0, .ref mh)] → W p l e ({ frames := 4, cells := 0, slots := 0, locals := 94 } : Room) s m args below meth c H locs 0 0 Q (F0 m 56 ls []) := by
        intro n56
        induction n56 with
        | zero => intros; omega
        | succ n56 ih56 =>
          intro i mo be sdx d2x h2x ptx cox rox wtx f56 H locs hm56 hi ha hb2 hq56_0 hq56_1 hq56_2 hq56_3 hq56_4 hq56_5 hq56_6 hFr hP hS ls hl
          have hf_mg : f56 mg = eI g 12 gl := hFr.get h0f_mg (nm_c n_mh_mg.symm (nm_c n_mg_ms (nm_c n_mg_ah (nm_c n_mg_ap (nm_c n_mg_ac (nm_c n_mg_ar (nm_c n_mg_awt (List.not_mem_nil))))))))
          have hf_mr : f56 mr = eI g 12 rn := hFr.get h0f_mr (nm_c n_mh_mr.symm (nm_c n_mr_ms (nm_c n_mr_ah (nm_c n_mr_ap (nm_c n_mr_ac (nm_c n_mr_ar (nm_c n_mr_awt (List.not_mem_nil))))))))
          have hf_mk : f56 mk = eI g 8 kd := hFr.get h0f_mk (nm_c n_mh_mk.symm (nm_c n_mk_ms (nm_c n_mk_ah (nm_c n_mk_ap (nm_c n_mk_ac (nm_c n_mk_ar (nm_c n_mk_awt (List.not_mem_nil))))))))
          have hf_mn : f56 mn = eI g 8 nu := hFr.get h0f_mn (nm_c n_mh_mn.symm (nm_c n_mn_ms (nm_c n_mn_ah (nm_c n_mn_ap (nm_c n_mn_ac (nm_c n_mn_ar (nm_c n_mn_awt (List.not_mem_nil))))))))
          have hf_nw : f56 nw = eO 6 [.int (nI d), .int ht, .ref np, .ref nc, .ref nr, .ref nwt] := hFr.get h0f_nw (nm_c n_mh_nw.symm (nm_c n_ms_nw.symm (nm_c n_ah_nw.symm (nm_c n_nw_ap (nm_c n_nw_ac (nm_c n_nw_ar (nm_c n_nw_awt (List.not_mem_nil))))))))
          have hf_np : f56 np = eI g 6 pt := hFr.get h0f_np (nm_c n_mh_np.symm (nm_c n_ms_np.symm (nm_c n_np_ah (nm_c n_ap_np.symm (nm_c n_ac_np.symm (nm_c n_ar_np.symm (nm_c n_np_awt (List.not_mem_nil))))))))
          have hf_nc : f56 nc = eI g 6 co := hFr.get h0f_nc (nm_c n_mh_nc.symm (nm_c n_ms_nc.symm (nm_c n_nc_ah (nm_c n_ap_nc.symm (nm_c n_ac_nc.symm (nm_c n_ar_nc.symm (nm_c n_nc_awt (List.not_mem_nil))))))))
          have hf_nr : f56 nr = eI g 6 ro := hFr.get h0f_nr (nm_c n_mh_nr.symm (nm_c n_ms_nr.symm (nm_c n_nr_ah (nm_c n_ap_nr.symm (nm_c n_ac_nr.symm (nm_c n_ar_nr.symm (nm_c n_nr_awt (List.not_mem_nil))))))))
          have hf_nwt : f56 nwt = eI g 48 wt := hFr.get h0f_nwt (nm_c n_mh_nwt.symm (nm_c n_ms_nwt.symm (nm_c n_nwt_ah (nm_c n_nwt_ap (nm_c n_nwt_ac (nm_c n_nwt_ar (nm_c n_awt_nwt.symm (List.not_mem_nil))))))))
          have hf_ms : f56 ms = eI g 8 sdx := hq56_0
          have hf_ah : f56 ah = eO 6 [.int (nI d2x), .int h2x, .ref ap, .ref ac, .ref ar, .ref awt] := hq56_1
          have hf_ap : f56 ap = eI g 6 ptx := hq56_2
          have hf_ac : f56 ac = eI g 6 cox := hq56_3
          have hf_ar : f56 ar = eI g 6 rox := hq56_4
          have hf_awt : f56 awt = eI g 48 wtx := hq56_5
          have hf_mh : f56 mh = eO 7 [.int 0, .ref mg, .ref mr, .int (nI n), .ref mk, .ref mn, .int (nI nv), .ref ms, .ref nw, .ref ah] := hq56_6
          refine lv_iload hx hb dX6_advise_56 (lv_at hl 0 rfl) ?_
          refine lv_aload_n hx hb dX6_advise_58 rfl (lv_at hl 5 rfl) ?_
          refine pg_get (C := RX6) (T := TX6) (N := 10) hx hb hts hi_X6 hown hK hP hL_mh hf_mh rfl 3 (by decide) (hts (.fieldLink RX6 45 "BarometerLeagueModel" "signs" "I") (by decide +kernel)) (fun _ h9 => h9) rfl dX6_advise_59 ?_
          refine lv_icmp_ge (tgt := 119) hx hb dX6_advise_62 (by decide) (fun c62 => ?_) (fun c62 => ?_)
          · skip
            have c62 : n ≤ i := (nI_leI (a := n) (b := i) (by omega) (by omega)).mp (show nI n ≤ nI i from c62)
            refine lv_iload hx hb dX6_advise_119 (lv_at hl 1 rfl) ?_
            exact hend (be) f56 _ _ _ _ (⟨Or.inr (Or.inr ⟨u, k, hu, rfl, hk1, hk2, rfl, by rw [hb2, hPd, show i = n from (by omega)], hf_mh, _, _, _, _, _, _, _, hf_ms, hf_ah, hf_ap, hf_ac, hf_ar, hf_awt⟩), hFr⟩) hP hS rfl dX6_advise_121
          · skip
            have c62 : ¬ n ≤ i := fun h => c62 ((nI_leI (a := n) (b := i) (by omega) (by omega)).mpr h)
            refine lv_aload_n hx hb dX6_advise_65 rfl (lv_at hl 5 rfl) ?_
            refine rf_V (As := []) (rest := []) ⟨hx, hb, hml, hown, hts⟩ (m_X6_lookAhead l g L f56 _ hN _ _ _ _ _ _ _ _ _ _ _ _ _ _ _ _ _ _ _ _ _ _ _ _ _ _ _ _ _ _ _ hL_mh hf_mh hL_nw hf_nw hL_np hf_np hL_nc hf_nc hL_nr hf_nr hL_nwt hf_nwt hL_ah hf_ah hL_ap hf_ap hL_ac hf_ac hL_ar hf_ar hL_awt hf_awt n_ah_nw n_ap_ac n_ap_ar n_ac_ar n_awt_nwt n_ap_np n_ap_nc n_ap_nr n_ac_np n_ac_nc n_ac_nr n_ar_np n_ar_nc n_ar_nr) (cwV 0 hts gX6_advise_X6_lookAhead rfl rfl rfl (by decide +kernel) ⟨Nat.le_of_ble_eq_true rfl, Nat.le_of_ble_eq_true rfl⟩) hK hP hA hA2 hS hL_mh hf_mh rfl rfl hl.1 rfl (Nat.le_of_ble_eq_true rfl) dX6_advise_66 ⟨Nat.zero_le _, Nat.zero_le _⟩ (fun f66 H locs hr66 hP hS => ?_)
            obtain ⟨hc66_0, hc66_1, hc66_2, hc66_3, hc66_4, hw66⟩ := hr66
            have hf_mh : f66 mh = eO 7 [.int 0, .ref mg, .ref mr, .int (nI n), .ref mk, .ref mn, .int (nI nv), .ref ms, .ref nw, .ref ah] := hw66.get hf_mh (nm_c n_mh_ah (nm_c n_mh_ap (nm_c n_mh_ac (nm_c n_mh_ar (nm_c n_mh_awt (List.not_mem_nil))))))
            have hf_mg : f66 mg = eI g 12 gl := hw66.get hf_mg (nm_c n_mg_ah (nm_c n_mg_ap (nm_c n_mg_ac (nm_c n_mg_ar (nm_c n_mg_awt (List.not_mem_nil))))))
            have hf_mr : f66 mr = eI g 12 rn := hw66.get hf_mr (nm_c n_mr_ah (nm_c n_mr_ap (nm_c n_mr_ac (nm_c n_mr_ar (nm_c n_mr_awt (List.not_mem_nil))))))
            have hf_mk : f66 mk = eI g 8 kd := hw66.get hf_mk (nm_c n_mk_ah (nm_c n_mk_ap (nm_c n_mk_ac (nm_c n_mk_ar (nm_c n_mk_awt (List.not_mem_nil))))))
            have hf_mn : f66 mn = eI g 8 nu := hw66.get hf_mn (nm_c n_mn_ah (nm_c n_mn_ap (nm_c n_mn_ac (nm_c n_mn_ar (nm_c n_mn_awt (List.not_mem_nil))))))
            have hf_ms : f66 ms = eI g 8 sdx := hw66.get hf_ms (nm_c n_ms_ah (nm_c n_ms_ap (nm_c n_ms_ac (nm_c n_ms_ar (nm_c n_ms_awt (List.not_mem_nil))))))
            have hf_nw : f66 nw = eO 6 [.int (nI d), .int ht, .ref np, .ref nc, .ref nr, .ref nwt] := hw66.get hf_nw (nm_c n_ah_nw.symm (nm_c n_nw_ap (nm_c n_nw_ac (nm_c n_nw_ar (nm_c n_nw_awt (List.not_mem_nil))))))
            have hf_np : f66 np = eI g 6 pt := hw66.get hf_np (nm_c n_np_ah (nm_c n_ap_np.symm (nm_c n_ac_np.symm (nm_c n_ar_np.symm (nm_c n_np_awt (List.not_mem_nil))))))
            have hf_nc : f66 nc = eI g 6 co := hw66.get hf_nc (nm_c n_nc_ah (nm_c n_ap_nc.symm (nm_c n_ac_nc.symm (nm_c n_ar_nc.symm (nm_c n_nc_awt (List.not_mem_nil))))))
            have hf_nr : f66 nr = eI g 6 ro := hw66.get hf_nr (nm_c n_nr_ah (nm_c n_ap_nr.symm (nm_c n_ac_nr.symm (nm_c n_ar_nr.symm (nm_c n_nr_awt (List.not_mem_nil))))))
            have hf_nwt : f66 nwt = eI g 48 wt := hw66.get hf_nwt (nm_c n_nwt_ah (nm_c n_nwt_ap (nm_c n_nwt_ac (nm_c n_nwt_ar (nm_c n_awt_nwt.symm (List.not_mem_nil))))))
            have hf_ah : f66 ah = eO 6 [.int (nI d), .int ht, .ref ap, .ref ac, .ref ar, .ref awt] := hc66_0
            have hf_ap : f66 ap = eI g 6 pt := hc66_1
            have hf_ac : f66 ac = eI g 6 co := hc66_2
            have hf_ar : f66 ar = eI g 6 ro := hc66_3
            have hf_awt : f66 awt = eI g 48 wt := hc66_4
            replace hFr : Fr f f66 [mh, ms, ah, ap, ac, ar, awt] := hFr.tr hw66 (by simp)
            refine pg_getN (C := RX5) (T := TX5) (N := 6) hx hb hts hi_X5 hown hK hP hL_ah hf_ah rfl 5 (by decide) (hK.nest 12 rfl) (fun _ h9 => h9) rfl dX6_advise_69 ?_
            refine lv_bipush (v := 8) hx hb dX6_advise_72 (by decide) ?_
            refine lv_iload_n hx hb dX6_advise_74 rfl (lv_at hl 4 rfl) ?_
            refine lv_imul hx hb dX6_advise_75 ?_
            refine lv_topi (fun v75 ev75 => ?_)
            refine lv_iload hx hb dX6_advise_76 (lv_at hl 0 rfl) ?_
            refine lv_iadd hx hb dX6_advise_78 ?_
            refine lv_topi (fun v78 ev78 => ?_)
            refine lv_iconst (v := 0) hx hb dX6_advise_79 (by decide) ?_
            refine pn_iast (j := 8 * u + i) hx hb hK hP hN hA hS hL_awt hf_awt (ev78.trans (nat_add (ev75.trans (nat_mul rfl rfl)) rfl)) (by omega) (Nat.lt_of_lt_of_le (m := 100) (by omega) (by omega)) dX6_advise_80 (fun H locs hP hS => ?_)
            obtain ⟨f80, ef80⟩ : ∃ z, z = va_up f66 awt (eI g 48 (upd wt (8 * u + i) 0)) := ⟨_, rfl⟩
            replace hP : PP g L f80 H := by rw [ef80]; exact hP
            have hf_mh : f80 mh = eO 7 [.int 0, .ref mg, .ref mr, .int (nI n), .ref mk, .ref mn, .int (nI nv), .ref ms, .ref nw, .ref ah] := by rw [ef80, va_up_ne _ _ n_mh_awt]; exact hf_mh
            have hf_mg : f80 mg = eI g 12 gl := by rw [ef80, va_up_ne _ _ n_mg_awt]; exact hf_mg
            have hf_mr : f80 mr = eI g 12 rn := by rw [ef80, va_up_ne _ _ n_mr_awt]; exact hf_mr
            have hf_mk : f80 mk = eI g 8 kd := by rw [ef80, va_up_ne _ _ n_mk_awt]; exact hf_mk
            have hf_mn : f80 mn = eI g 8 nu := by rw [ef80, va_up_ne _ _ n_mn_awt]; exact hf_mn
            have hf_ms : f80 ms = eI g 8 sdx := by rw [ef80, va_up_ne _ _ n_ms_awt]; exact hf_ms
            have hf_nw : f80 nw = eO 6 [.int (nI d), .int ht, .ref np, .ref nc, .ref nr, .ref nwt] := by rw [ef80, va_up_ne _ _ n_nw_awt]; exact hf_nw
            have hf_np : f80 np = eI g 6 pt := by rw [ef80, va_up_ne _ _ n_np_awt]; exact hf_np
            have hf_nc : f80 nc = eI g 6 co := by rw [ef80, va_up_ne _ _ n_nc_awt]; exact hf_nc
            have hf_nr : f80 nr = eI g 6 ro := by rw [ef80, va_up_ne _ _ n_nr_awt]; exact hf_nr
            have hf_nwt : f80 nwt = eI g 48 wt := by rw [ef80, va_up_ne _ _ n_awt_nwt.symm]; exact hf_nwt
            have hf_ah : f80 ah = eO 6 [.int (nI d), .int ht, .ref ap, .ref ac, .ref ar, .ref awt] := by rw [ef80, va_up_ne _ _ n_ah_awt]; exact hf_ah
            have hf_ap : f80 ap = eI g 6 pt := by rw [ef80, va_up_ne _ _ n_ap_awt]; exact hf_ap
            have hf_ac : f80 ac = eI g 6 co := by rw [ef80, va_up_ne _ _ n_ac_awt]; exact hf_ac
            have hf_ar : f80 ar = eI g 6 ro := by rw [ef80, va_up_ne _ _ n_ar_awt]; exact hf_ar
            have hf_awt : f80 awt = eI g 48 (upd wt (8 * u + i) 0) := by rw [ef80]; exact va_up_self _ _ _
            replace hFr : Fr f f80 [mh, ms, ah, ap, ac, ar, awt] := by rw [ef80]; exact hFr.up (by simp)
            refine lv_aload_n hx hb dX6_advise_81 rfl (lv_at hl 5 rfl) ?_
            refine lv_aload_n hx hb dX6_advise_82 rfl (lv_at hl 5 rfl) ?_
            refine pg_get (C := RX6) (T := TX6) (N := 10) hx hb hts hi_X6 hown hK hP hL_mh hf_mh rfl 9 (by decide) (hts (.fieldLink RX6 32 "BarometerLeagueModel" "ahead" "LBarometerLeagueModel$State;") (by decide +kernel)) (fun _ h9 => h9) rfl dX6_advise_83 ?_
            refine lv_iload_n hx hb dX6_advise_86 rfl (lv_at hl 3 rfl) ?_
            refine rf_V (As := [.ref ah, .int (nI k)]) (rest := []) ⟨hx, hb, hml, hown, hts⟩ (m_X6_passAll l g L f80 _ hN _ _ _ _ _ _ _ _ _ _ _ _ _ _ _ _ _ _ _ _ _ _ _ _ _ _ _ k hL_mh hf_mh hL_mg hf_mg hL_mr hf_mr hL_mk hf_mk hL_mn hf_mn hL_ms hf_ms hL_ah hf_ah hL_ap hf_ap hL_ac hf_ac hL_ar hf_ar hL_awt hf_awt n_mk_ms n_mn_ms n_ap_ac n_ap_ar n_ac_ar hn hnv (by omega)) (cwV 2 hts gX6_advise_X6_passAll rfl rfl rfl (by decide +kernel) ⟨Nat.le_of_ble_eq_true rfl, Nat.le_of_ble_eq_true rfl⟩) hK hP hA hA2 hS hL_mh hf_mh rfl rfl hl.1 rfl (Nat.le_of_ble_eq_true rfl) dX6_advise_87 ⟨Nat.zero_le _, Nat.zero_le _⟩ (fun f87 H locs hr87 hP hS => ?_)
            obtain ⟨hc87_0, hc87_1, hc87_2, hc87_3, hc87_4, hc87_5, hw87⟩ := hr87
            have hf_mh : f87 mh = eO 7 [.int 0, .ref mg, .ref mr, .int (nI n), .ref mk, .ref mn, .int (nI nv), .ref ms, .ref nw, .ref ah] := hw87.get hf_mh (nm_c n_mh_ms (nm_c n_mh_ah (nm_c n_mh_ap (nm_c n_mh_ac (nm_c n_mh_ar (nm_c n_mh_awt (List.not_mem_nil)))))))
            have hf_mg : f87 mg = eI g 12 gl := hw87.get hf_mg (nm_c n_mg_ms (nm_c n_mg_ah (nm_c n_mg_ap (nm_c n_mg_ac (nm_c n_mg_ar (nm_c n_mg_awt (List.not_mem_nil)))))))
            have hf_mr : f87 mr = eI g 12 rn := hw87.get hf_mr (nm_c n_mr_ms (nm_c n_mr_ah (nm_c n_mr_ap (nm_c n_mr_ac (nm_c n_mr_ar (nm_c n_mr_awt (List.not_mem_nil)))))))
            have hf_mk : f87 mk = eI g 8 kd := hw87.get hf_mk (nm_c n_mk_ms (nm_c n_mk_ah (nm_c n_mk_ap (nm_c n_mk_ac (nm_c n_mk_ar (nm_c n_mk_awt (List.not_mem_nil)))))))
            have hf_mn : f87 mn = eI g 8 nu := hw87.get hf_mn (nm_c n_mn_ms (nm_c n_mn_ah (nm_c n_mn_ap (nm_c n_mn_ac (nm_c n_mn_ar (nm_c n_mn_awt (List.not_mem_nil)))))))
            have hf_nw : f87 nw = eO 6 [.int (nI d), .int ht, .ref np, .ref nc, .ref nr, .ref nwt] := hw87.get hf_nw (nm_c n_ms_nw.symm (nm_c n_ah_nw.symm (nm_c n_nw_ap (nm_c n_nw_ac (nm_c n_nw_ar (nm_c n_nw_awt (List.not_mem_nil)))))))
            have hf_np : f87 np = eI g 6 pt := hw87.get hf_np (nm_c n_ms_np.symm (nm_c n_np_ah (nm_c n_ap_np.symm (nm_c n_ac_np.symm (nm_c n_ar_np.symm (nm_c n_np_awt (List.not_mem_nil)))))))
            have hf_nc : f87 nc = eI g 6 co := hw87.get hf_nc (nm_c n_ms_nc.symm (nm_c n_nc_ah (nm_c n_ap_nc.symm (nm_c n_ac_nc.symm (nm_c n_ar_nc.symm (nm_c n_nc_awt (List.not_mem_nil)))))))
            have hf_nr : f87 nr = eI g 6 ro := hw87.get hf_nr (nm_c n_ms_nr.symm (nm_c n_nr_ah (nm_c n_ap_nr.symm (nm_c n_ac_nr.symm (nm_c n_ar_nr.symm (nm_c n_nr_awt (List.not_mem_nil)))))))
            have hf_nwt : f87 nwt = eI g 48 wt := hw87.get hf_nwt (nm_c n_ms_nwt.symm (nm_c n_nwt_ah (nm_c n_nwt_ap (nm_c n_nwt_ac (nm_c n_nwt_ar (nm_c n_awt_nwt.symm (List.not_mem_nil)))))))
            have hf_ms : f87 ms = eI g 8 ((itM kd nu gl rn n nv (sdx, d, ht, pt, co, ro, upd wt (8 * u + i) 0) k).1) := hc87_0
            have hf_ah : f87 ah = eO 6 [.int (nI ((itM kd nu gl rn n nv (sdx, d, ht, pt, co, ro, upd wt (8 * u + i) 0) k).2.1)), .int ((itM kd nu gl rn n nv (sdx, d, ht, pt, co, ro, upd wt (8 * u + i) 0) k).2.2.1), .ref ap, .ref ac, .ref ar, .ref awt] := hc87_1
            have hf_ap : f87 ap = eI g 6 ((itM kd nu gl rn n nv (sdx, d, ht, pt, co, ro, upd wt (8 * u + i) 0) k).2.2.2.1) := hc87_2
            have hf_ac : f87 ac = eI g 6 ((itM kd nu gl rn n nv (sdx, d, ht, pt, co, ro, upd wt (8 * u + i) 0) k).2.2.2.2.1) := hc87_3
            have hf_ar : f87 ar = eI g 6 ((itM kd nu gl rn n nv (sdx, d, ht, pt, co, ro, upd wt (8 * u + i) 0) k).2.2.2.2.2.1) := hc87_4
            have hf_awt : f87 awt = eI g 48 ((itM kd nu gl rn n nv (sdx, d, ht, pt, co, ro, upd wt (8 * u + i) 0) k).2.2.2.2.2.2) := hc87_5
            replace hFr : Fr f f87 [mh, ms, ah, ap, ac, ar, awt] := hFr.tr hw87 (by simp)
            refine pg_getN (C := RX5) (T := TX5) (N := 6) hx hb hts hi_X5 hown hK hP hL_ah hf_ah rfl 2 (by decide) (hK.nest 9 rfl) (fun _ h9 => h9) rfl dX6_advise_90 ?_
            refine lv_iload_n hx hb dX6_advise_93 rfl (lv_at hl 4 rfl) ?_
            refine pn_iald (j := u) hx hb hK hP hL_ap hf_ap rfl (by omega) (Nat.lt_of_lt_of_le (m := 100) (by omega) (by omega)) dX6_advise_94 ?_
            have e95 : ((itM kd nu gl rn n nv (sdx, d, ht, pt, co, ro, upd wt (8 * u + i) 0) k).2.2.2.1) u = P (i + 1) := by rw [hPd]; exact advP_s sdx
            rw [e95]
            refine lv_istore (lv' := [(6, .int (P (i + 1))), (5, .int (nI i)), (4, .int be), (3, .int mo), (2, .int (nI k)), (1, .int (nI u)), (0, .ref mh)]) hx hb dX6_advise_95 hl (by decide) rfl (fun ls hl => ?_)
            refine lv_iload hx hb dX6_advise_97 (lv_at hl 0 rfl) ?_
            refine lv_iload_n hx hb dX6_advise_99 rfl (lv_at hl 3 rfl) ?_
            refine lv_icmp_gt (tgt := 106) hx hb dX6_advise_100 (by decide) (fun c100 => ?_) (fun c100 => ?_)
            · skip
              refine lv_iload hx hb dX6_advise_106 (lv_at hl 0 rfl) ?_
              refine lv_istore_n (lv' := [(3, .int (P (i + 1))), (6, .int (P (i + 1))), (5, .int (nI i)), (4, .int be), (2, .int (nI k)), (1, .int (nI u)), (0, .ref mh)]) hx hb dX6_advise_108 rfl hl (by decide) rfl (fun ls hl => ?_)
              refine lv_iload hx hb dX6_advise_109 (lv_at hl 2 rfl) ?_
              refine lv_istore (lv' := [(4, .int (nI i)), (3, .int (P (i + 1))), (6, .int (P (i + 1))), (5, .int (nI i)), (2, .int (nI k)), (1, .int (nI u)), (0, .ref mh)]) hx hb dX6_advise_111 hl (by decide) rfl (fun ls hl => ?_)
              refine lv_iinc (v := nI (i + 1)) (lv' := [(5, .int (nI (i + 1))), (4, .int (nI i)), (3, .int (P (i + 1))), (6, .int (P (i + 1))), (2, .int (nI k)), (1, .int (nI u)), (0, .ref mh)]) hx hb dX6_advise_113 hl (k := 3) rfl (nI_1 _) (by decide) rfl (fun ls hl => ?_)
              refine lv_goto (tgt := 56) hx hb dX6_advise_116 (by decide) ?_
              exact ih56 (i + 1) (P (i + 1)) (nI i) ((itM kd nu gl rn n nv (sdx, d, ht, pt, co, ro, upd wt (8 * u + i) 0) k).1) ((itM kd nu gl rn n nv (sdx, d, ht, pt, co, ro, upd wt (8 * u + i) 0) k).2.1) ((itM kd nu gl rn n nv (sdx, d, ht, pt, co, ro, upd wt (8 * u + i) 0) k).2.2.1) ((itM kd nu gl rn n nv (sdx, d, ht, pt, co, ro, upd wt (8 * u + i) 0) k).2.2.2.1) ((itM kd nu gl rn n nv (sdx, d, ht, pt, co, ro, upd wt (8 * u + i) 0) k).2.2.2.2.1) ((itM kd nu gl rn n nv (sdx, d, ht, pt, co, ro, upd wt (8 * u + i) 0) k).2.2.2.2.2.1) ((itM kd nu gl rn n nv (sdx, d, ht, pt, co, ro, upd wt (8 * u + i) 0) k).2.2.2.2.2.2) f87 H locs (by omega) (by omega) ((advF_t (b := be) ha (Int32.not_le.mpr c100)).1) ((advF_t (b := be) ha (Int32.not_le.mpr c100)).2) hf_ms hf_ah hf_ap hf_ac hf_ar hf_awt hf_mh hFr hP hS ls (lv_sub hl [0, 1, 2, 4, 5, 6] rfl)
            · skip
              refine lv_goto (tgt := 113) hx hb dX6_advise_103 (by decide) ?_
              refine lv_iinc (v := nI (i + 1)) (lv' := [(5, .int (nI (i + 1))), (6, .int (P (i + 1))), (4, .int be), (3, .int mo), (2, .int (nI k)), (1, .int (nI u)), (0, .ref mh)]) hx hb dX6_advise_113 hl (k := 1) rfl (nI_1 _) (by decide) rfl (fun ls hl => ?_)
              refine lv_goto (tgt := 56) hx hb dX6_advise_116 (by decide) ?_
              exact ih56 (i + 1) mo be ((itM kd nu gl rn n nv (sdx, d, ht, pt, co, ro, upd wt (8 * u + i) 0) k).1) ((itM kd nu gl rn n nv (sdx, d, ht, pt, co, ro, upd wt (8 * u + i) 0) k).2.1) ((itM kd nu gl rn n nv (sdx, d, ht, pt, co, ro, upd wt (8 * u + i) 0) k).2.2.1) ((itM kd nu gl rn n nv (sdx, d, ht, pt, co, ro, upd wt (8 * u + i) 0) k).2.2.2.1) ((itM kd nu gl rn n nv (sdx, d, ht, pt, co, ro, upd wt (8 * u + i) 0) k).2.2.2.2.1) ((itM kd nu gl rn n nv (sdx, d, ht, pt, co, ro, upd wt (8 * u + i) 0) k).2.2.2.2.2.1) ((itM kd nu gl rn n nv (sdx, d, ht, pt, co, ro, upd wt (8 * u + i) 0) k).2.2.2.2.2.2) f87 H locs (by omega) (by omega) ((advF_f ha hb2 (Int32.not_lt.mp c100)).1) ((advF_f ha hb2 (Int32.not_lt.mp c100)).2) hf_ms hf_ah hf_ap hf_ac hf_ar hf_awt hf_mh hFr hP hS ls (lv_sub hl [0, 2, 3, 4, 5, 6] rfl)
      exact K56 _ 0 (P 0) (-1) ((itM kd nu gl rn n nv (sd, d, ht, pt, co, ro, wt) k).1) ((itM kd nu gl rn n nv (sd, d, ht, pt, co, ro, wt) k).2.1) ((itM kd nu gl rn n nv (sd, d, ht, pt, co, ro, wt) k).2.2.1) ((itM kd nu gl rn n nv (sd, d, ht, pt, co, ro, wt) k).2.2.2.1) ((itM kd nu gl rn n nv (sd, d, ht, pt, co, ro, wt) k).2.2.2.2.1) ((itM kd nu gl rn n nv (sd, d, ht, pt, co, ro, wt) k).2.2.2.2.2.1) ((itM kd nu gl rn n nv (sd, d, ht, pt, co, ro, wt) k).2.2.2.2.2.2) f41 _ _ (Nat.lt_succ_self _) (Nat.zero_le _) (rfl) (rfl) hf_ms hf_ah hf_ap hf_ac hf_ar hf_awt hf_mh hFr hP hS ls (lv_sub hl [0, 1, 2, 5, 4, 3] rfl)
    · skip
      refine lv_aload_n hx hb dX6_advise_29 rfl (lv_at hl 0 rfl) ?_
      refine lv_iconst (v := 2) hx hb dX6_advise_30 (by decide) ?_
      refine rw_V (As := [.int 2]) (rest := []) ⟨hx, hb, hml, hown, hts⟩ (m_X6_no l g L f2 _ hN _ _ _ _ _ _ _ _ _ _ _ _ hL_mh hf_mh) (cwV 1 hts gX6_advise_X6_no rfl rfl rfl (by decide +kernel) ⟨Nat.le_of_ble_eq_true rfl, Nat.le_of_ble_eq_true rfl⟩) hK hP hA hA2 hS hL_mh hf_mh rfl rfl hl.1 rfl (Nat.le_of_ble_eq_true rfl) dX6_advise_31 ⟨Nat.zero_le _, Nat.zero_le _⟩ (fun r31 f31 H locs hr31 hP hS => ?_)
      obtain ⟨hv31, hc31_0, hw31⟩ := hr31
      have hf_mg : f31 mg = eI g 12 gl := hw31.get hf_mg (nm_c n_mh_mg.symm (List.not_mem_nil))
      have hf_mr : f31 mr = eI g 12 rn := hw31.get hf_mr (nm_c n_mh_mr.symm (List.not_mem_nil))
      have hf_mk : f31 mk = eI g 8 kd := hw31.get hf_mk (nm_c n_mh_mk.symm (List.not_mem_nil))
      have hf_mn : f31 mn = eI g 8 nu := hw31.get hf_mn (nm_c n_mh_mn.symm (List.not_mem_nil))
      have hf_ms : f31 ms = eI g 8 sd := hw31.get hf_ms (nm_c n_mh_ms.symm (List.not_mem_nil))
      have hf_nw : f31 nw = eO 6 [.int (nI d), .int ht, .ref np, .ref nc, .ref nr, .ref nwt] := hw31.get hf_nw (nm_c n_mh_nw.symm (List.not_mem_nil))
      have hf_np : f31 np = eI g 6 pt := hw31.get hf_np (nm_c n_mh_np.symm (List.not_mem_nil))
      have hf_nc : f31 nc = eI g 6 co := hw31.get hf_nc (nm_c n_mh_nc.symm (List.not_mem_nil))
      have hf_nr : f31 nr = eI g 6 ro := hw31.get hf_nr (nm_c n_mh_nr.symm (List.not_mem_nil))
      have hf_nwt : f31 nwt = eI g 48 wt := hw31.get hf_nwt (nm_c n_mh_nwt.symm (List.not_mem_nil))
      have hf_ah : f31 ah = eO 6 [.int (nI d2), .int h2, .ref ap, .ref ac, .ref ar, .ref awt] := hw31.get hf_ah (nm_c n_mh_ah.symm (List.not_mem_nil))
      have hf_ap : f31 ap = eI g 6 pt2 := hw31.get hf_ap (nm_c n_mh_ap.symm (List.not_mem_nil))
      have hf_ac : f31 ac = eI g 6 co2 := hw31.get hf_ac (nm_c n_mh_ac.symm (List.not_mem_nil))
      have hf_ar : f31 ar = eI g 6 ro2 := hw31.get hf_ar (nm_c n_mh_ar.symm (List.not_mem_nil))
      have hf_awt : f31 awt = eI g 48 wt2 := hw31.get hf_awt (nm_c n_mh_awt.symm (List.not_mem_nil))
      have hf_mh : f31 mh = eO 7 [.int 2, .ref mg, .ref mr, .int (nI n), .ref mk, .ref mn, .int (nI nv), .ref ms, .ref nw, .ref ah] := hc31_0
      replace hFr : Fr f f31 [mh, ms, ah, ap, ac, ar, awt] := hFr.tr hw31 (by simp)
      subst hv31
      exact hend (0) f31 _ _ _ _ (⟨Or.inr (Or.inl ⟨nz_t c10, z_f c26, hf_mh, hf_ms, hf_ah, hf_ap, hf_ac, hf_ar, hf_awt⟩), hFr⟩) hP hS rfl dX6_advise_34
  · skip
    refine lv_aload_n hx hb dX6_advise_13 rfl (lv_at hl 0 rfl) ?_
    refine lv_iconst (v := 1) hx hb dX6_advise_14 (by decide) ?_
    refine rw_V (As := [.int 1]) (rest := []) ⟨hx, hb, hml, hown, hts⟩ (m_X6_no l g L f2 _ hN _ _ _ _ _ _ _ _ _ _ _ _ hL_mh hf_mh) (cwV 1 hts gX6_advise_X6_no rfl rfl rfl (by decide +kernel) ⟨Nat.le_of_ble_eq_true rfl, Nat.le_of_ble_eq_true rfl⟩) hK hP hA hA2 hS hL_mh hf_mh rfl rfl hl.1 rfl (Nat.le_of_ble_eq_true rfl) dX6_advise_15 ⟨Nat.zero_le _, Nat.zero_le _⟩ (fun r15 f15 H locs hr15 hP hS => ?_)
    obtain ⟨hv15, hc15_0, hw15⟩ := hr15
    have hf_mg : f15 mg = eI g 12 gl := hw15.get hf_mg (nm_c n_mh_mg.symm (List.not_mem_nil))
    have hf_mr : f15 mr = eI g 12 rn := hw15.get hf_mr (nm_c n_mh_mr.symm (List.not_mem_nil))
    have hf_mk : f15 mk = eI g 8 kd := hw15.get hf_mk (nm_c n_mh_mk.symm (List.not_mem_nil))
    have hf_mn : f15 mn = eI g 8 nu := hw15.get hf_mn (nm_c n_mh_mn.symm (List.not_mem_nil))
    have hf_ms : f15 ms = eI g 8 sd := hw15.get hf_ms (nm_c n_mh_ms.symm (List.not_mem_nil))
    have hf_nw : f15 nw = eO 6 [.int (nI d), .int ht, .ref np, .ref nc, .ref nr, .ref nwt] := hw15.get hf_nw (nm_c n_mh_nw.symm (List.not_mem_nil))
    have hf_np : f15 np = eI g 6 pt := hw15.get hf_np (nm_c n_mh_np.symm (List.not_mem_nil))
    have hf_nc : f15 nc = eI g 6 co := hw15.get hf_nc (nm_c n_mh_nc.symm (List.not_mem_nil))
    have hf_nr : f15 nr = eI g 6 ro := hw15.get hf_nr (nm_c n_mh_nr.symm (List.not_mem_nil))
    have hf_nwt : f15 nwt = eI g 48 wt := hw15.get hf_nwt (nm_c n_mh_nwt.symm (List.not_mem_nil))
    have hf_ah : f15 ah = eO 6 [.int (nI d2), .int h2, .ref ap, .ref ac, .ref ar, .ref awt] := hw15.get hf_ah (nm_c n_mh_ah.symm (List.not_mem_nil))
    have hf_ap : f15 ap = eI g 6 pt2 := hw15.get hf_ap (nm_c n_mh_ap.symm (List.not_mem_nil))
    have hf_ac : f15 ac = eI g 6 co2 := hw15.get hf_ac (nm_c n_mh_ac.symm (List.not_mem_nil))
    have hf_ar : f15 ar = eI g 6 ro2 := hw15.get hf_ar (nm_c n_mh_ar.symm (List.not_mem_nil))
    have hf_awt : f15 awt = eI g 48 wt2 := hw15.get hf_awt (nm_c n_mh_awt.symm (List.not_mem_nil))
    have hf_mh : f15 mh = eO 7 [.int 1, .ref mg, .ref mr, .int (nI n), .ref mk, .ref mn, .int (nI nv), .ref ms, .ref nw, .ref ah] := hc15_0
    replace hFr : Fr f f15 [mh, ms, ah, ap, ac, ar, awt] := hFr.tr hw15 (by simp)
    subst hv15
    exact hend (0) f15 _ _ _ _ (⟨Or.inl ⟨z_f c10, hf_mh, hf_ms, hf_ah, hf_ap, hf_ac, hf_ar, hf_awt⟩, hFr⟩) hP hS rfl dX6_advise_18
