set_option maxHeartbeats 4000000 in
set_option maxRecDepth 100000 in
theorem m_X6_foresee (l : Launch) (g : GG) (L : List Nat) (f : Nat → va_E) (sz : Nat) (hN : L.Nodup) (mh mg mr mk mn ms n nv : Nat) (th : Int32) (gl rn kd nu sd : Nat → Int32) (nw np nc nr nwt d : Nat) (ht : Int32) (pt co ro wt : Nat → Int32) (ah ap ac ar awt d2 : Nat) (h2 : Int32) (pt2 co2 ro2 wt2 : Nat → Int32) (x y : Int32) (hL_mh : mh ∈ L) (hf_mh : f mh = eO 7 [.int th, .ref mg, .ref mr, .int (nI n), .ref mk, .ref mn, .int (nI nv), .ref ms, .ref nw, .ref ah]) (hL_mg : mg ∈ L) (hf_mg : f mg = eI g 12 gl) (hL_mr : mr ∈ L) (hf_mr : f mr = eI g 12 rn) (hL_mk : mk ∈ L) (hf_mk : f mk = eI g 8 kd) (hL_mn : mn ∈ L) (hf_mn : f mn = eI g 8 nu) (hL_ms : ms ∈ L) (hf_ms : f ms = eI g 8 sd) (hL_nw : nw ∈ L) (hf_nw : f nw = eO 6 [.int (nI d), .int ht, .ref np, .ref nc, .ref nr, .ref nwt]) (hL_np : np ∈ L) (hf_np : f np = eI g 6 pt) (hL_nc : nc ∈ L) (hf_nc : f nc = eI g 6 co) (hL_nr : nr ∈ L) (hf_nr : f nr = eI g 6 ro) (hL_nwt : nwt ∈ L) (hf_nwt : f nwt = eI g 48 wt) (hL_ah : ah ∈ L) (hf_ah : f ah = eO 6 [.int (nI d2), .int h2, .ref ap, .ref ac, .ref ar, .ref awt]) (hL_ap : ap ∈ L) (hf_ap : f ap = eI g 6 pt2) (hL_ac : ac ∈ L) (hf_ac : f ac = eI g 6 co2) (hL_ar : ar ∈ L) (hf_ar : f ar = eI g 6 ro2) (hL_awt : awt ∈ L) (hf_awt : f awt = eI g 48 wt2) (n_mk_ms : mk ≠ ms) (n_mn_ms : mn ≠ ms) (n_ah_nw : ah ≠ nw) (n_ap_ac : ap ≠ ac) (n_ap_ar : ap ≠ ar) (n_ac_ar : ac ≠ ar) (n_awt_nwt : awt ≠ nwt) (n_ap_np : ap ≠ np) (n_ap_nc : ap ≠ nc) (n_ap_nr : ap ≠ nr) (n_ac_np : ac ≠ np) (n_ac_nc : ac ≠ nc) (n_ac_nr : ac ≠ nr) (n_ar_np : ar ≠ np) (n_ar_nc : ar ≠ nc) (n_ar_nr : ar ≠ nr) (hn : n ≤ 8) (hnv : nv ≤ 6) (hd : d + 90 < 2 ^ 30) : RW l g yX6_foresee wsX6_foresee 4 94 L f sz [.ref mh, .int x, .int y] (fun r f2 => ((decide ((1 : Int32) ≤ x ∧ x ≤ nI 90) = false ∧ f2 mh = eO 7 [.int 1, .ref mg, .ref mr, .int (nI n), .ref mk, .ref mn, .int (nI nv), .ref ms, .ref nw, .ref ah] ∧ f2 ms = eI g 8 sd ∧ f2 ah = eO 6 [.int (nI d2), .int h2, .ref ap, .ref ac, .ref ar, .ref awt] ∧ f2 ap = eI g 6 pt2 ∧ f2 ac = eI g 6 co2 ∧ f2 ar = eI g 6 ro2 ∧ f2 awt = eI g 48 wt2) ∨ (decide ((1 : Int32) ≤ x ∧ x ≤ nI 90) = true ∧ decide ((3 : Int32) ≤ y ∧ y ≤ 5) = false ∧ f2 mh = eO 7 [.int 2, .ref mg, .ref mr, .int (nI n), .ref mk, .ref mn, .int (nI nv), .ref ms, .ref nw, .ref ah] ∧ f2 ms = eI g 8 sd ∧ f2 ah = eO 6 [.int (nI d2), .int h2, .ref ap, .ref ac, .ref ar, .ref awt] ∧ f2 ap = eI g 6 pt2 ∧ f2 ac = eI g 6 co2 ∧ f2 ar = eI g 6 ro2 ∧ f2 awt = eI g 48 wt2) ∨ ∃ k w, 1 ≤ k ∧ k ≤ 90 ∧ x = nI k ∧ 3 ≤ w ∧ w ≤ 5 ∧ y = nI w ∧ r = countM (sdM kd nu gl rn n (itM kd nu gl rn n nv (sd, d, ht, pt, co, ro, wt) k).2.1 (itM kd nu gl rn n nv (sd, d, ht, pt, co, ro, wt) k).1) (itM kd nu gl rn n nv (sd, d, ht, pt, co, ro, wt) k).2.2.2.1 (itM kd nu gl rn n nv (sd, d, ht, pt, co, ro, wt) k).2.2.2.2.1 rn (itM kd nu gl rn n nv (sd, d, ht, pt, co, ro, wt) k).2.2.2.2.2.2 n nv (itM kd nu gl rn n nv (sd, d, ht, pt, co, ro, wt) k).2.1 w ∧ f2 mh = eO 7 [.int 0, .ref mg, .ref mr, .int (nI n), .ref mk, .ref mn, .int (nI nv), .ref ms, .ref nw, .ref ah] ∧ f2 ms = eI g 8 (if w = 5 then sdM kd nu gl rn n (itM kd nu gl rn n nv (sd, d, ht, pt, co, ro, wt) k).2.1 (itM kd nu gl rn n nv (sd, d, ht, pt, co, ro, wt) k).1 else (itM kd nu gl rn n nv (sd, d, ht, pt, co, ro, wt) k).1) ∧ f2 ah = eO 6 [.int (nI (itM kd nu gl rn n nv (sd, d, ht, pt, co, ro, wt) k).2.1), .int (itM kd nu gl rn n nv (sd, d, ht, pt, co, ro, wt) k).2.2.1, .ref ap, .ref ac, .ref ar, .ref awt] ∧ f2 ap = eI g 6 (itM kd nu gl rn n nv (sd, d, ht, pt, co, ro, wt) k).2.2.2.1 ∧ f2 ac = eI g 6 (itM kd nu gl rn n nv (sd, d, ht, pt, co, ro, wt) k).2.2.2.2.1 ∧ f2 ar = eI g 6 (itM kd nu gl rn n nv (sd, d, ht, pt, co, ro, wt) k).2.2.2.2.2.1 ∧ f2 awt = eI g 48 (itM kd nu gl rn n nv (sd, d, ht, pt, co, ro, wt) k).2.2.2.2.2.2) ∧ Fr f f2 [mh, ms, ah, ap, ac, ar, awt]) := by
  refine RW.start (cc := cX6_foresee) (maxL := 3) (ret := .int) (by decide +kernel) rfl (by simp [lg_sl, Value.category]) ?_
  intro p e s m args below meth c Q ls A hx hb hml hts hown hA hA2 hS hP hK hl hend
  have hl : lv_has ls 3 [(0, .ref mh), (1, .int x), (2, .int y)] := hl
  have hi_X6 : ∀ w ∈ u_ws RX6 TX6 10, w ∈ wsX6_foresee := by decide +kernel
  have hFr : Fr f f [mh, ms, ah, ap, ac, ar, awt] := Fr.rf
  have n_mh_mg : mh ≠ mg := ne_e hf_mh hf_mg (by simp)
  have n_mh_mr : mh ≠ mr := ne_e hf_mh hf_mr (by simp)
  have n_mh_mk : mh ≠ mk := ne_e hf_mh hf_mk (by simp)
  have n_mh_mn : mh ≠ mn := ne_e hf_mh hf_mn (by simp)
  have n_mh_ms : mh ≠ ms := ne_e hf_mh hf_ms (by simp)
  have n_mh_nw : mh ≠ nw := ne_e hf_mh hf_nw (by simp)
  have n_mh_np : mh ≠ np := ne_e hf_mh hf_np (by simp)
  have n_mh_nc : mh ≠ nc := ne_e hf_mh hf_nc (by simp)
  have n_mh_nr : mh ≠ nr := ne_e hf_mh hf_nr (by simp)
  have n_mh_nwt : mh ≠ nwt := ne_e hf_mh hf_nwt (by simp)
  have n_mh_ah : mh ≠ ah := ne_e hf_mh hf_ah (by simp)
  have n_mh_ap : mh ≠ ap := ne_e hf_mh hf_ap (by simp)
  have n_mh_ac : mh ≠ ac := ne_e hf_mh hf_ac (by simp)
  have n_mh_ar : mh ≠ ar := ne_e hf_mh hf_ar (by simp)
  have n_mh_awt : mh ≠ awt := ne_e hf_mh hf_awt (by simp)
  have n_mg_mk : mg ≠ mk := ne_e hf_mg hf_mk (by simp)
  have n_mg_mn : mg ≠ mn := ne_e hf_mg hf_mn (by simp)
  have n_mg_ms : mg ≠ ms := ne_e hf_mg hf_ms (by simp)
  have n_mg_nw : mg ≠ nw := ne_e hf_mg hf_nw (by simp)
  have n_mg_np : mg ≠ np := ne_e hf_mg hf_np (by simp)
  have n_mg_nc : mg ≠ nc := ne_e hf_mg hf_nc (by simp)
  have n_mg_nr : mg ≠ nr := ne_e hf_mg hf_nr (by simp)
  have n_mg_nwt : mg ≠ nwt := ne_e hf_mg hf_nwt (by simp)
  have n_mg_ah : mg ≠ ah := ne_e hf_mg hf_ah (by simp)
  have n_mg_ap : mg ≠ ap := ne_e hf_mg hf_ap (by simp)
  have n_mg_ac : mg ≠ ac := ne_e hf_mg hf_ac (by simp)
  have n_mg_ar : mg ≠ ar := ne_e hf_mg hf_ar (by simp)
  have n_mg_awt : mg ≠ awt := ne_e hf_mg hf_awt (by simp)
  have n_mr_mk : mr ≠ mk := ne_e hf_mr hf_mk (by simp)
  have n_mr_mn : mr ≠ mn := ne_e hf_mr hf_mn (by simp)
  have n_mr_ms : mr ≠ ms := ne_e hf_mr hf_ms (by simp)
  have n_mr_nw : mr ≠ nw := ne_e hf_mr hf_nw (by simp)
  have n_mr_np : mr ≠ np := ne_e hf_mr hf_np (by simp)
  have n_mr_nc : mr ≠ nc := ne_e hf_mr hf_nc (by simp)
  have n_mr_nr : mr ≠ nr := ne_e hf_mr hf_nr (by simp)
  have n_mr_nwt : mr ≠ nwt := ne_e hf_mr hf_nwt (by simp)
  have n_mr_ah : mr ≠ ah := ne_e hf_mr hf_ah (by simp)
  have n_mr_ap : mr ≠ ap := ne_e hf_mr hf_ap (by simp)
  have n_mr_ac : mr ≠ ac := ne_e hf_mr hf_ac (by simp)
  have n_mr_ar : mr ≠ ar := ne_e hf_mr hf_ar (by simp)
  have n_mr_awt : mr ≠ awt := ne_e hf_mr hf_awt (by simp)
  have n_mk_nw : mk ≠ nw := ne_e hf_mk hf_nw (by simp)
  have n_mk_np : mk ≠ np := ne_e hf_mk hf_np (by simp)
  have n_mk_nc : mk ≠ nc := ne_e hf_mk hf_nc (by simp)
  have n_mk_nr : mk ≠ nr := ne_e hf_mk hf_nr (by simp)
  have n_mk_nwt : mk ≠ nwt := ne_e hf_mk hf_nwt (by simp)
  have n_mk_ah : mk ≠ ah := ne_e hf_mk hf_ah (by simp)
  have n_mk_ap : mk ≠ ap := ne_e hf_mk hf_ap (by simp)
  have n_mk_ac : mk ≠ ac := ne_e hf_mk hf_ac (by simp)
  have n_mk_ar : mk ≠ ar := ne_e hf_mk hf_ar (by simp)
  have n_mk_awt : mk ≠ awt := ne_e hf_mk hf_awt (by simp)
  have n_mn_nw : mn ≠ nw := ne_e hf_mn hf_nw (by simp)
  have n_mn_np : mn ≠ np := ne_e hf_mn hf_np (by simp)
  have n_mn_nc : mn ≠ nc := ne_e hf_mn hf_nc (by simp)
  have n_mn_nr : mn ≠ nr := ne_e hf_mn hf_nr (by simp)
  have n_mn_nwt : mn ≠ nwt := ne_e hf_mn hf_nwt (by simp)
  have n_mn_ah : mn ≠ ah := ne_e hf_mn hf_ah (by simp)
  have n_mn_ap : mn ≠ ap := ne_e hf_mn hf_ap (by simp)
  have n_mn_ac : mn ≠ ac := ne_e hf_mn hf_ac (by simp)
  have n_mn_ar : mn ≠ ar := ne_e hf_mn hf_ar (by simp)
  have n_mn_awt : mn ≠ awt := ne_e hf_mn hf_awt (by simp)
  have n_ms_nw : ms ≠ nw := ne_e hf_ms hf_nw (by simp)
  have n_ms_np : ms ≠ np := ne_e hf_ms hf_np (by simp)
  have n_ms_nc : ms ≠ nc := ne_e hf_ms hf_nc (by simp)
  have n_ms_nr : ms ≠ nr := ne_e hf_ms hf_nr (by simp)
  have n_ms_nwt : ms ≠ nwt := ne_e hf_ms hf_nwt (by simp)
  have n_ms_ah : ms ≠ ah := ne_e hf_ms hf_ah (by simp)
  have n_ms_ap : ms ≠ ap := ne_e hf_ms hf_ap (by simp)
  have n_ms_ac : ms ≠ ac := ne_e hf_ms hf_ac (by simp)
  have n_ms_ar : ms ≠ ar := ne_e hf_ms hf_ar (by simp)
  have n_ms_awt : ms ≠ awt := ne_e hf_ms hf_awt (by simp)
  have n_nw_np : nw ≠ np := ne_e hf_nw hf_np (by simp)
  have n_nw_nc : nw ≠ nc := ne_e hf_nw hf_nc (by simp)
  have n_nw_nr : nw ≠ nr := ne_e hf_nw hf_nr (by simp)
  have n_nw_nwt : nw ≠ nwt := ne_e hf_nw hf_nwt (by simp)
  have n_nw_ap : nw ≠ ap := ne_e hf_nw hf_ap (by simp)
  have n_nw_ac : nw ≠ ac := ne_e hf_nw hf_ac (by simp)
  have n_nw_ar : nw ≠ ar := ne_e hf_nw hf_ar (by simp)
  have n_nw_awt : nw ≠ awt := ne_e hf_nw hf_awt (by simp)
  have n_np_nwt : np ≠ nwt := ne_e hf_np hf_nwt (by simp)
  have n_np_ah : np ≠ ah := ne_e hf_np hf_ah (by simp)
  have n_np_awt : np ≠ awt := ne_e hf_np hf_awt (by simp)
  have n_nc_nwt : nc ≠ nwt := ne_e hf_nc hf_nwt (by simp)
  have n_nc_ah : nc ≠ ah := ne_e hf_nc hf_ah (by simp)
  have n_nc_awt : nc ≠ awt := ne_e hf_nc hf_awt (by simp)
  have n_nr_nwt : nr ≠ nwt := ne_e hf_nr hf_nwt (by simp)
  have n_nr_ah : nr ≠ ah := ne_e hf_nr hf_ah (by simp)
  have n_nr_awt : nr ≠ awt := ne_e hf_nr hf_awt (by simp)
  have n_nwt_ah : nwt ≠ ah := ne_e hf_nwt hf_ah (by simp)
  have n_nwt_ap : nwt ≠ ap := ne_e hf_nwt hf_ap (by simp)
  have n_nwt_ac : nwt ≠ ac := ne_e hf_nwt hf_ac (by simp)
  have n_nwt_ar : nwt ≠ ar := ne_e hf_nwt hf_ar (by simp)
  have n_ah_ap : ah ≠ ap := ne_e hf_ah hf_ap (by simp)
  have n_ah_ac : ah ≠ ac := ne_e hf_ah hf_ac (by simp)
  have n_ah_ar : ah ≠ ar := ne_e hf_ah hf_ar (by simp)
  have n_ah_awt : ah ≠ awt := ne_e hf_ah hf_awt (by simp)
  have n_ap_awt : ap ≠ awt := ne_e hf_ap hf_awt (by simp)
  have n_ac_awt : ac ≠ awt := ne_e hf_ac hf_awt (by simp)
  have n_ar_awt : ar ≠ awt := ne_e hf_ar hf_awt (by simp)
  have h0f_mh := hf_mh
  have h0f_mg := hf_mg
  have h0f_mr := hf_mr
  have h0f_mk := hf_mk
  have h0f_mn := hf_mn
  have h0f_ms := hf_ms
  have h0f_nw := hf_nw
  have h0f_np := hf_np
  have h0f_nc := hf_nc
  have h0f_nr := hf_nr
  have h0f_nwt := hf_nwt
  have h0f_ah := hf_ah
  have h0f_ap := hf_ap
  have h0f_ac := hf_ac
  have h0f_ar := hf_ar
  have h0f_awt := hf_awt
  refine lv_aload_n hx hb dX6_foresee_0 rfl (lv_at hl 0 rfl) ?_
  refine lv_iconst (v := 0) hx hb dX6_foresee_1 (by decide) ?_
  refine pg_put (ty := .int) (C := RX6) (T := TX6) (N := 10) hx hb hts hi_X6 tyX6 tyX6_ok nmX6 hown hK hP hN hA hS hL_mh hf_mh rfl 0 (by decide) (hts (.fieldLink RX6 41 "BarometerLeagueModel" "thrown" "I") (by decide +kernel)) (fun _ h9 => h9) rfl (by decide +kernel) rfl rfl (Nat.le_of_ble_eq_true rfl) dX6_foresee_2 (fun H locs hP hS => ?_)
  obtain ⟨f2, ef2⟩ : ∃ z, z = va_up f mh (eO 7 [.int 0, .ref mg, .ref mr, .int (nI n), .ref mk, .ref mn, .int (nI nv), .ref ms, .ref nw, .ref ah]) := ⟨_, rfl⟩
  replace hP : PP g L f2 H := by rw [ef2]; exact hP
  have hf_mg : f2 mg = eI g 12 gl := by rw [ef2, va_up_ne _ _ n_mh_mg.symm]; exact hf_mg
  have hf_mr : f2 mr = eI g 12 rn := by rw [ef2, va_up_ne _ _ n_mh_mr.symm]; exact hf_mr
  have hf_mk : f2 mk = eI g 8 kd := by rw [ef2, va_up_ne _ _ n_mh_mk.symm]; exact hf_mk
  have hf_mn : f2 mn = eI g 8 nu := by rw [ef2, va_up_ne _ _ n_mh_mn.symm]; exact hf_mn
  have hf_ms : f2 ms = eI g 8 sd := by rw [ef2, va_up_ne _ _ n_mh_ms.symm]; exact hf_ms
  have hf_nw : f2 nw = eO 6 [.int (nI d), .int ht, .ref np, .ref nc, .ref nr, .ref nwt] := by rw [ef2, va_up_ne _ _ n_mh_nw.symm]; exact hf_nw
  have hf_np : f2 np = eI g 6 pt := by rw [ef2, va_up_ne _ _ n_mh_np.symm]; exact hf_np
  have hf_nc : f2 nc = eI g 6 co := by rw [ef2, va_up_ne _ _ n_mh_nc.symm]; exact hf_nc
  have hf_nr : f2 nr = eI g 6 ro := by rw [ef2, va_up_ne _ _ n_mh_nr.symm]; exact hf_nr
  have hf_nwt : f2 nwt = eI g 48 wt := by rw [ef2, va_up_ne _ _ n_mh_nwt.symm]; exact hf_nwt
  have hf_ah : f2 ah = eO 6 [.int (nI d2), .int h2, .ref ap, .ref ac, .ref ar, .ref awt] := by rw [ef2, va_up_ne _ _ n_mh_ah.symm]; exact hf_ah
  have hf_ap : f2 ap = eI g 6 pt2 := by rw [ef2, va_up_ne _ _ n_mh_ap.symm]; exact hf_ap
  have hf_ac : f2 ac = eI g 6 co2 := by rw [ef2, va_up_ne _ _ n_mh_ac.symm]; exact hf_ac
  have hf_ar : f2 ar = eI g 6 ro2 := by rw [ef2, va_up_ne _ _ n_mh_ar.symm]; exact hf_ar
  have hf_awt : f2 awt = eI g 48 wt2 := by rw [ef2, va_up_ne _ _ n_mh_awt.symm]; exact hf_awt
  have hf_mh : f2 mh = eO 7 [.int 0, .ref mg, .ref mr, .int (nI n), .ref mk, .ref mn, .int (nI nv), .ref ms, .ref nw, .ref ah] := by rw [ef2]; exact va_up_self _ _ _
  replace hFr : Fr f f2 [mh, ms, ah, ap, ac, ar, awt] := by rw [ef2]; exact hFr.up (by simp)
  refine lv_iload_n hx hb dX6_foresee_5 rfl (lv_at hl 1 rfl) ?_
  refine lv_iconst (v := 1) hx hb dX6_foresee_6 (by decide) ?_
  refine lv_bipush (v := 90) hx hb dX6_foresee_7 (by decide) ?_
  refine ro_S (As := [.int x, .int 1, .int 90]) (rest := []) ⟨hx, hb, hml, hown, hts⟩ (m_X6_isIn l g L f2 x _ _ ) (va_cwS 3 hts gX6_foresee_X6_isIn rfl rfl rfl (by decide +kernel) ⟨Nat.le_of_ble_eq_true rfl, Nat.le_of_ble_eq_true rfl⟩) hK hP rfl hl.1 rfl (Nat.le_of_ble_eq_true rfl) dX6_foresee_9 ⟨Nat.zero_le _, Nat.zero_le _⟩ (fun r9 hr9 => ?_)
  have hr9 : r9 = b2i (decide (1 ≤ x ∧ x ≤ 90)) := hr9
  subst hr9
  refine lv_if_ne (tgt := 21) hx hb dX6_foresee_12 (by decide) (fun c12 => ?_) (fun c12 => ?_)
  · skip
    refine lv_iload_n hx hb dX6_foresee_21 rfl (lv_at hl 2 rfl) ?_
    refine lv_iconst (v := 3) hx hb dX6_foresee_22 (by decide) ?_
    refine lv_iconst (v := 5) hx hb dX6_foresee_23 (by decide) ?_
    refine ro_S (As := [.int y, .int 3, .int 5]) (rest := []) ⟨hx, hb, hml, hown, hts⟩ (m_X6_isIn l g L f2 y _ _ ) (va_cwS 3 hts gX6_foresee_X6_isIn rfl rfl rfl (by decide +kernel) ⟨Nat.le_of_ble_eq_true rfl, Nat.le_of_ble_eq_true rfl⟩) hK hP rfl hl.1 rfl (Nat.le_of_ble_eq_true rfl) dX6_foresee_24 ⟨Nat.zero_le _, Nat.zero_le _⟩ (fun r24 hr24 => ?_)
    have hr24 : r24 = b2i (decide (3 ≤ y ∧ y ≤ 5)) := hr24
    subst hr24
    refine lv_if_ne (tgt := 36) hx hb dX6_foresee_27 (by decide) (fun c27 => ?_) (fun c27 => ?_)
    · skip
      have c12b := nz_t c12
      obtain ⟨k, hk1, hk2, rfl⟩ := dy_in (k := 90) (by omega) (nz_t c12)
      obtain ⟨w, hw1, hw2, rfl⟩ := wt_in (nz_t c27)
      refine lv_aload_n hx hb dX6_foresee_36 rfl (lv_at hl 0 rfl) ?_
      refine lv_aload_n hx hb dX6_foresee_37 rfl (lv_at hl 0 rfl) ?_
      refine lv_aload_n hx hb dX6_foresee_38 rfl (lv_at hl 0 rfl) ?_
      refine rf_V (As := []) (rest := [.ref mh, .ref mh]) ⟨hx, hb, hml, hown, hts⟩ (m_X6_lookAhead l g L f2 _ hN _ _ _ _ _ _ _ _ _ _ _ _ _ _ _ _ _ _ _ _ _ _ _ _ _ _ _ _ _ _ _ hL_mh hf_mh hL_nw hf_nw hL_np hf_np hL_nc hf_nc hL_nr hf_nr hL_nwt hf_nwt hL_ah hf_ah hL_ap hf_ap hL_ac hf_ac hL_ar hf_ar hL_awt hf_awt n_ah_nw n_ap_ac n_ap_ar n_ac_ar n_awt_nwt n_ap_np n_ap_nc n_ap_nr n_ac_np n_ac_nc n_ac_nr n_ar_np n_ar_nc n_ar_nr) (cwV 0 hts gX6_foresee_X6_lookAhead rfl rfl rfl (by decide +kernel) ⟨Nat.le_of_ble_eq_true rfl, Nat.le_of_ble_eq_true rfl⟩) hK hP hA hA2 hS hL_mh hf_mh rfl rfl hl.1 rfl (Nat.le_of_ble_eq_true rfl) dX6_foresee_39 ⟨Nat.zero_le _, Nat.zero_le _⟩ (fun f39 H locs hr39 hP hS => ?_)
      obtain ⟨hc39_0, hc39_1, hc39_2, hc39_3, hc39_4, hw39⟩ := hr39
      have hf_mh : f39 mh = eO 7 [.int 0, .ref mg, .ref mr, .int (nI n), .ref mk, .ref mn, .int (nI nv), .ref ms, .ref nw, .ref ah] := hw39.get hf_mh (nm_c n_mh_ah (nm_c n_mh_ap (nm_c n_mh_ac (nm_c n_mh_ar (nm_c n_mh_awt (List.not_mem_nil))))))
      have hf_mg : f39 mg = eI g 12 gl := hw39.get hf_mg (nm_c n_mg_ah (nm_c n_mg_ap (nm_c n_mg_ac (nm_c n_mg_ar (nm_c n_mg_awt (List.not_mem_nil))))))
      have hf_mr : f39 mr = eI g 12 rn := hw39.get hf_mr (nm_c n_mr_ah (nm_c n_mr_ap (nm_c n_mr_ac (nm_c n_mr_ar (nm_c n_mr_awt (List.not_mem_nil))))))
      have hf_mk : f39 mk = eI g 8 kd := hw39.get hf_mk (nm_c n_mk_ah (nm_c n_mk_ap (nm_c n_mk_ac (nm_c n_mk_ar (nm_c n_mk_awt (List.not_mem_nil))))))
      have hf_mn : f39 mn = eI g 8 nu := hw39.get hf_mn (nm_c n_mn_ah (nm_c n_mn_ap (nm_c n_mn_ac (nm_c n_mn_ar (nm_c n_mn_awt (List.not_mem_nil))))))
      have hf_ms : f39 ms = eI g 8 sd := hw39.get hf_ms (nm_c n_ms_ah (nm_c n_ms_ap (nm_c n_ms_ac (nm_c n_ms_ar (nm_c n_ms_awt (List.not_mem_nil))))))
      have hf_nw : f39 nw = eO 6 [.int (nI d), .int ht, .ref np, .ref nc, .ref nr, .ref nwt] := hw39.get hf_nw (nm_c n_ah_nw.symm (nm_c n_nw_ap (nm_c n_nw_ac (nm_c n_nw_ar (nm_c n_nw_awt (List.not_mem_nil))))))
      have hf_np : f39 np = eI g 6 pt := hw39.get hf_np (nm_c n_np_ah (nm_c n_ap_np.symm (nm_c n_ac_np.symm (nm_c n_ar_np.symm (nm_c n_np_awt (List.not_mem_nil))))))
      have hf_nc : f39 nc = eI g 6 co := hw39.get hf_nc (nm_c n_nc_ah (nm_c n_ap_nc.symm (nm_c n_ac_nc.symm (nm_c n_ar_nc.symm (nm_c n_nc_awt (List.not_mem_nil))))))
      have hf_nr : f39 nr = eI g 6 ro := hw39.get hf_nr (nm_c n_nr_ah (nm_c n_ap_nr.symm (nm_c n_ac_nr.symm (nm_c n_ar_nr.symm (nm_c n_nr_awt (List.not_mem_nil))))))
      have hf_nwt : f39 nwt = eI g 48 wt := hw39.get hf_nwt (nm_c n_nwt_ah (nm_c n_nwt_ap (nm_c n_nwt_ac (nm_c n_nwt_ar (nm_c n_awt_nwt.symm (List.not_mem_nil))))))
      have hf_ah : f39 ah = eO 6 [.int (nI d), .int ht, .ref ap, .ref ac, .ref ar, .ref awt] := hc39_0
      have hf_ap : f39 ap = eI g 6 pt := hc39_1
      have hf_ac : f39 ac = eI g 6 co := hc39_2
      have hf_ar : f39 ar = eI g 6 ro := hc39_3
      have hf_awt : f39 awt = eI g 48 wt := hc39_4
      replace hFr : Fr f f39 [mh, ms, ah, ap, ac, ar, awt] := hFr.tr hw39 (by simp)
      refine lv_iload_n hx hb dX6_foresee_42 rfl (lv_at hl 1 rfl) ?_
      refine rf_V (As := [.ref ah, .int (nI k)]) (rest := [.ref mh]) ⟨hx, hb, hml, hown, hts⟩ (m_X6_passAll l g L f39 _ hN _ _ _ _ _ _ _ _ _ _ _ _ _ _ _ _ _ _ _ _ _ _ _ _ _ _ _ k hL_mh hf_mh hL_mg hf_mg hL_mr hf_mr hL_mk hf_mk hL_mn hf_mn hL_ms hf_ms hL_ah hf_ah hL_ap hf_ap hL_ac hf_ac hL_ar hf_ar hL_awt hf_awt n_mk_ms n_mn_ms n_ap_ac n_ap_ar n_ac_ar hn hnv (by omega)) (cwV 2 hts gX6_foresee_X6_passAll rfl rfl rfl (by decide +kernel) ⟨Nat.le_of_ble_eq_true rfl, Nat.le_of_ble_eq_true rfl⟩) hK hP hA hA2 hS hL_mh hf_mh rfl rfl hl.1 rfl (Nat.le_of_ble_eq_true rfl) dX6_foresee_43 ⟨Nat.zero_le _, Nat.zero_le _⟩ (fun f43 H locs hr43 hP hS => ?_)
      obtain ⟨hc43_0, hc43_1, hc43_2, hc43_3, hc43_4, hc43_5, hw43⟩ := hr43
      have hf_mh : f43 mh = eO 7 [.int 0, .ref mg, .ref mr, .int (nI n), .ref mk, .ref mn, .int (nI nv), .ref ms, .ref nw, .ref ah] := hw43.get hf_mh (nm_c n_mh_ms (nm_c n_mh_ah (nm_c n_mh_ap (nm_c n_mh_ac (nm_c n_mh_ar (nm_c n_mh_awt (List.not_mem_nil)))))))
      have hf_mg : f43 mg = eI g 12 gl := hw43.get hf_mg (nm_c n_mg_ms (nm_c n_mg_ah (nm_c n_mg_ap (nm_c n_mg_ac (nm_c n_mg_ar (nm_c n_mg_awt (List.not_mem_nil)))))))
      have hf_mr : f43 mr = eI g 12 rn := hw43.get hf_mr (nm_c n_mr_ms (nm_c n_mr_ah (nm_c n_mr_ap (nm_c n_mr_ac (nm_c n_mr_ar (nm_c n_mr_awt (List.not_mem_nil)))))))
      have hf_mk : f43 mk = eI g 8 kd := hw43.get hf_mk (nm_c n_mk_ms (nm_c n_mk_ah (nm_c n_mk_ap (nm_c n_mk_ac (nm_c n_mk_ar (nm_c n_mk_awt (List.not_mem_nil)))))))
      have hf_mn : f43 mn = eI g 8 nu := hw43.get hf_mn (nm_c n_mn_ms (nm_c n_mn_ah (nm_c n_mn_ap (nm_c n_mn_ac (nm_c n_mn_ar (nm_c n_mn_awt (List.not_mem_nil)))))))
      have hf_nw : f43 nw = eO 6 [.int (nI d), .int ht, .ref np, .ref nc, .ref nr, .ref nwt] := hw43.get hf_nw (nm_c n_ms_nw.symm (nm_c n_ah_nw.symm (nm_c n_nw_ap (nm_c n_nw_ac (nm_c n_nw_ar (nm_c n_nw_awt (List.not_mem_nil)))))))
      have hf_np : f43 np = eI g 6 pt := hw43.get hf_np (nm_c n_ms_np.symm (nm_c n_np_ah (nm_c n_ap_np.symm (nm_c n_ac_np.symm (nm_c n_ar_np.symm (nm_c n_np_awt (List.not_mem_nil)))))))
      have hf_nc : f43 nc = eI g 6 co := hw43.get hf_nc (nm_c n_ms_nc.symm (nm_c n_nc_ah (nm_c n_ap_nc.symm (nm_c n_ac_nc.symm (nm_c n_ar_nc.symm (nm_c n_nc_awt (List.not_mem_nil)))))))
      have hf_nr : f43 nr = eI g 6 ro := hw43.get hf_nr (nm_c n_ms_nr.symm (nm_c n_nr_ah (nm_c n_ap_nr.symm (nm_c n_ac_nr.symm (nm_c n_ar_nr.symm (nm_c n_nr_awt (List.not_mem_nil)))))))
      have hf_nwt : f43 nwt = eI g 48 wt := hw43.get hf_nwt (nm_c n_ms_nwt.symm (nm_c n_nwt_ah (nm_c n_nwt_ap (nm_c n_nwt_ac (nm_c n_nwt_ar (nm_c n_awt_nwt.symm (List.not_mem_nil)))))))
      have hf_ms : f43 ms = eI g 8 ((itM kd nu gl rn n nv (sd, d, ht, pt, co, ro, wt) k).1) := hc43_0
      have hf_ah : f43 ah = eO 6 [.int (nI ((itM kd nu gl rn n nv (sd, d, ht, pt, co, ro, wt) k).2.1)), .int ((itM kd nu gl rn n nv (sd, d, ht, pt, co, ro, wt) k).2.2.1), .ref ap, .ref ac, .ref ar, .ref awt] := hc43_1
      have hf_ap : f43 ap = eI g 6 ((itM kd nu gl rn n nv (sd, d, ht, pt, co, ro, wt) k).2.2.2.1) := hc43_2
      have hf_ac : f43 ac = eI g 6 ((itM kd nu gl rn n nv (sd, d, ht, pt, co, ro, wt) k).2.2.2.2.1) := hc43_3
      have hf_ar : f43 ar = eI g 6 ((itM kd nu gl rn n nv (sd, d, ht, pt, co, ro, wt) k).2.2.2.2.2.1) := hc43_4
      have hf_awt : f43 awt = eI g 48 ((itM kd nu gl rn n nv (sd, d, ht, pt, co, ro, wt) k).2.2.2.2.2.2) := hc43_5
      replace hFr : Fr f f43 [mh, ms, ah, ap, ac, ar, awt] := hFr.tr hw43 (by simp)
      refine lv_iload_n hx hb dX6_foresee_46 rfl (lv_at hl 2 rfl) ?_
      refine rw_V (As := [.ref ah, .int (nI w)]) (rest := []) ⟨hx, hb, hml, hown, hts⟩ (m_X6_counted l g L f43 _ hN _ _ _ _ _ _ _ _ _ _ _ _ _ _ _ _ _ _ _ _ _ _ _ _ _ _ w hL_mh hf_mh hL_mg hf_mg hL_mr hf_mr hL_mk hf_mk hL_mn hf_mn hL_ms hf_ms hL_ah hf_ah hL_ap hf_ap hL_ac hf_ac hL_awt hf_awt n_mk_ms n_mn_ms hn hnv (itM_dlt (show d + k < 2 ^ 30 by omega)) (by omega)) (cwV 2 hts gX6_foresee_X6_counted rfl rfl rfl (by decide +kernel) ⟨Nat.le_of_ble_eq_true rfl, Nat.le_of_ble_eq_true rfl⟩) hK hP hA hA2 hS hL_mh hf_mh rfl rfl hl.1 rfl (Nat.le_of_ble_eq_true rfl) dX6_foresee_47 ⟨Nat.zero_le _, Nat.zero_le _⟩ (fun r47 f47 H locs hr47 hP hS => ?_)
      obtain ⟨hv47, hc47_0, hw47⟩ := hr47
      have hf_mh : f47 mh = eO 7 [.int 0, .ref mg, .ref mr, .int (nI n), .ref mk, .ref mn, .int (nI nv), .ref ms, .ref nw, .ref ah] := hw47.get hf_mh (nm_c n_mh_ms (List.not_mem_nil))
      have hf_mg : f47 mg = eI g 12 gl := hw47.get hf_mg (nm_c n_mg_ms (List.not_mem_nil))
      have hf_mr : f47 mr = eI g 12 rn := hw47.get hf_mr (nm_c n_mr_ms (List.not_mem_nil))
      have hf_mk : f47 mk = eI g 8 kd := hw47.get hf_mk (nm_c n_mk_ms (List.not_mem_nil))
      have hf_mn : f47 mn = eI g 8 nu := hw47.get hf_mn (nm_c n_mn_ms (List.not_mem_nil))
      have hf_nw : f47 nw = eO 6 [.int (nI d), .int ht, .ref np, .ref nc, .ref nr, .ref nwt] := hw47.get hf_nw (nm_c n_ms_nw.symm (List.not_mem_nil))
      have hf_np : f47 np = eI g 6 pt := hw47.get hf_np (nm_c n_ms_np.symm (List.not_mem_nil))
      have hf_nc : f47 nc = eI g 6 co := hw47.get hf_nc (nm_c n_ms_nc.symm (List.not_mem_nil))
      have hf_nr : f47 nr = eI g 6 ro := hw47.get hf_nr (nm_c n_ms_nr.symm (List.not_mem_nil))
      have hf_nwt : f47 nwt = eI g 48 wt := hw47.get hf_nwt (nm_c n_ms_nwt.symm (List.not_mem_nil))
      have hf_ah : f47 ah = eO 6 [.int (nI ((itM kd nu gl rn n nv (sd, d, ht, pt, co, ro, wt) k).2.1)), .int ((itM kd nu gl rn n nv (sd, d, ht, pt, co, ro, wt) k).2.2.1), .ref ap, .ref ac, .ref ar, .ref awt] := hw47.get hf_ah (nm_c n_ms_ah.symm (List.not_mem_nil))
      have hf_ap : f47 ap = eI g 6 ((itM kd nu gl rn n nv (sd, d, ht, pt, co, ro, wt) k).2.2.2.1) := hw47.get hf_ap (nm_c n_ms_ap.symm (List.not_mem_nil))
      have hf_ac : f47 ac = eI g 6 ((itM kd nu gl rn n nv (sd, d, ht, pt, co, ro, wt) k).2.2.2.2.1) := hw47.get hf_ac (nm_c n_ms_ac.symm (List.not_mem_nil))
      have hf_ar : f47 ar = eI g 6 ((itM kd nu gl rn n nv (sd, d, ht, pt, co, ro, wt) k).2.2.2.2.2.1) := hw47.get hf_ar (nm_c n_ms_ar.symm (List.not_mem_nil))
      have hf_awt : f47 awt = eI g 48 ((itM kd nu gl rn n nv (sd, d, ht, pt, co, ro, wt) k).2.2.2.2.2.2) := hw47.get hf_awt (nm_c n_ms_awt.symm (List.not_mem_nil))
      have hf_ms : f47 ms = eI g 8 (if w = 5 then sdM kd nu gl rn n ((itM kd nu gl rn n nv (sd, d, ht, pt, co, ro, wt) k).2.1) ((itM kd nu gl rn n nv (sd, d, ht, pt, co, ro, wt) k).1) else ((itM kd nu gl rn n nv (sd, d, ht, pt, co, ro, wt) k).1)) := hc47_0
      replace hFr : Fr f f47 [mh, ms, ah, ap, ac, ar, awt] := hFr.tr hw47 (by simp)
      exact hend (r47) f47 _ _ _ _ (⟨Or.inr (Or.inr ⟨k, w, hk1, hk2, rfl, hw1, hw2, rfl, hv47, hf_mh, hf_ms, hf_ah, hf_ap, hf_ac, hf_ar, hf_awt⟩), hFr⟩) hP hS rfl dX6_foresee_50
    · skip
      refine lv_aload_n hx hb dX6_foresee_30 rfl (lv_at hl 0 rfl) ?_
      refine lv_iconst (v := 2) hx hb dX6_foresee_31 (by decide) ?_
      refine rw_V (As := [.int 2]) (rest := []) ⟨hx, hb, hml, hown, hts⟩ (m_X6_no l g L f2 _ hN _ _ _ _ _ _ _ _ _ _ _ _ hL_mh hf_mh) (cwV 1 hts gX6_foresee_X6_no rfl rfl rfl (by decide +kernel) ⟨Nat.le_of_ble_eq_true rfl, Nat.le_of_ble_eq_true rfl⟩) hK hP hA hA2 hS hL_mh hf_mh rfl rfl hl.1 rfl (Nat.le_of_ble_eq_true rfl) dX6_foresee_32 ⟨Nat.zero_le _, Nat.zero_le _⟩ (fun r32 f32 H locs hr32 hP hS => ?_)
      obtain ⟨hv32, hc32_0, hw32⟩ := hr32
      have hf_mg : f32 mg = eI g 12 gl := hw32.get hf_mg (nm_c n_mh_mg.symm (List.not_mem_nil))
      have hf_mr : f32 mr = eI g 12 rn := hw32.get hf_mr (nm_c n_mh_mr.symm (List.not_mem_nil))
      have hf_mk : f32 mk = eI g 8 kd := hw32.get hf_mk (nm_c n_mh_mk.symm (List.not_mem_nil))
      have hf_mn : f32 mn = eI g 8 nu := hw32.get hf_mn (nm_c n_mh_mn.symm (List.not_mem_nil))
      have hf_ms : f32 ms = eI g 8 sd := hw32.get hf_ms (nm_c n_mh_ms.symm (List.not_mem_nil))
      have hf_nw : f32 nw = eO 6 [.int (nI d), .int ht, .ref np, .ref nc, .ref nr, .ref nwt] := hw32.get hf_nw (nm_c n_mh_nw.symm (List.not_mem_nil))
      have hf_np : f32 np = eI g 6 pt := hw32.get hf_np (nm_c n_mh_np.symm (List.not_mem_nil))
      have hf_nc : f32 nc = eI g 6 co := hw32.get hf_nc (nm_c n_mh_nc.symm (List.not_mem_nil))
      have hf_nr : f32 nr = eI g 6 ro := hw32.get hf_nr (nm_c n_mh_nr.symm (List.not_mem_nil))
      have hf_nwt : f32 nwt = eI g 48 wt := hw32.get hf_nwt (nm_c n_mh_nwt.symm (List.not_mem_nil))
      have hf_ah : f32 ah = eO 6 [.int (nI d2), .int h2, .ref ap, .ref ac, .ref ar, .ref awt] := hw32.get hf_ah (nm_c n_mh_ah.symm (List.not_mem_nil))
      have hf_ap : f32 ap = eI g 6 pt2 := hw32.get hf_ap (nm_c n_mh_ap.symm (List.not_mem_nil))
      have hf_ac : f32 ac = eI g 6 co2 := hw32.get hf_ac (nm_c n_mh_ac.symm (List.not_mem_nil))
      have hf_ar : f32 ar = eI g 6 ro2 := hw32.get hf_ar (nm_c n_mh_ar.symm (List.not_mem_nil))
      have hf_awt : f32 awt = eI g 48 wt2 := hw32.get hf_awt (nm_c n_mh_awt.symm (List.not_mem_nil))
      have hf_mh : f32 mh = eO 7 [.int 2, .ref mg, .ref mr, .int (nI n), .ref mk, .ref mn, .int (nI nv), .ref ms, .ref nw, .ref ah] := hc32_0
      replace hFr : Fr f f32 [mh, ms, ah, ap, ac, ar, awt] := hFr.tr hw32 (by simp)
      subst hv32
      exact hend (0) f32 _ _ _ _ (⟨Or.inr (Or.inl ⟨nz_t c12, z_f c27, hf_mh, hf_ms, hf_ah, hf_ap, hf_ac, hf_ar, hf_awt⟩), hFr⟩) hP hS rfl dX6_foresee_35
  · skip
    refine lv_aload_n hx hb dX6_foresee_15 rfl (lv_at hl 0 rfl) ?_
    refine lv_iconst (v := 1) hx hb dX6_foresee_16 (by decide) ?_
    refine rw_V (As := [.int 1]) (rest := []) ⟨hx, hb, hml, hown, hts⟩ (m_X6_no l g L f2 _ hN _ _ _ _ _ _ _ _ _ _ _ _ hL_mh hf_mh) (cwV 1 hts gX6_foresee_X6_no rfl rfl rfl (by decide +kernel) ⟨Nat.le_of_ble_eq_true rfl, Nat.le_of_ble_eq_true rfl⟩) hK hP hA hA2 hS hL_mh hf_mh rfl rfl hl.1 rfl (Nat.le_of_ble_eq_true rfl) dX6_foresee_17 ⟨Nat.zero_le _, Nat.zero_le _⟩ (fun r17 f17 H locs hr17 hP hS => ?_)
    obtain ⟨hv17, hc17_0, hw17⟩ := hr17
    have hf_mg : f17 mg = eI g 12 gl := hw17.get hf_mg (nm_c n_mh_mg.symm (List.not_mem_nil))
    have hf_mr : f17 mr = eI g 12 rn := hw17.get hf_mr (nm_c n_mh_mr.symm (List.not_mem_nil))
    have hf_mk : f17 mk = eI g 8 kd := hw17.get hf_mk (nm_c n_mh_mk.symm (List.not_mem_nil))
    have hf_mn : f17 mn = eI g 8 nu := hw17.get hf_mn (nm_c n_mh_mn.symm (List.not_mem_nil))
    have hf_ms : f17 ms = eI g 8 sd := hw17.get hf_ms (nm_c n_mh_ms.symm (List.not_mem_nil))
    have hf_nw : f17 nw = eO 6 [.int (nI d), .int ht, .ref np, .ref nc, .ref nr, .ref nwt] := hw17.get hf_nw (nm_c n_mh_nw.symm (List.not_mem_nil))
    have hf_np : f17 np = eI g 6 pt := hw17.get hf_np (nm_c n_mh_np.symm (List.not_mem_nil))
    have hf_nc : f17 nc = eI g 6 co := hw17.get hf_nc (nm_c n_mh_nc.symm (List.not_mem_nil))
    have hf_nr : f17 nr = eI g 6 ro := hw17.get hf_nr (nm_c n_mh_nr.symm (List.not_mem_nil))
    have hf_nwt : f17 nwt = eI g 48 wt := hw17.get hf_nwt (nm_c n_mh_nwt.symm (List.not_mem_nil))
    have hf_ah : f17 ah = eO 6 [.int (nI d2), .int h2, .ref ap, .ref ac, .ref ar, .ref awt] := hw17.get hf_ah (nm_c n_mh_ah.symm (List.not_mem_nil))
    have hf_ap : f17 ap = eI g 6 pt2 := hw17.get hf_ap (nm_c n_mh_ap.symm (List.not_mem_nil))
    have hf_ac : f17 ac = eI g 6 co2 := hw17.get hf_ac (nm_c n_mh_ac.symm (List.not_mem_nil))
    have hf_ar : f17 ar = eI g 6 ro2 := hw17.get hf_ar (nm_c n_mh_ar.symm (List.not_mem_nil))
    have hf_awt : f17 awt = eI g 48 wt2 := hw17.get hf_awt (nm_c n_mh_awt.symm (List.not_mem_nil))
    have hf_mh : f17 mh = eO 7 [.int 1, .ref mg, .ref mr, .int (nI n), .ref mk, .ref mn, .int (nI nv), .ref ms, .ref nw, .ref ah] := hc17_0
    replace hFr : Fr f f17 [mh, ms, ah, ap, ac, ar, awt] := hFr.tr hw17 (by simp)
    subst hv17
    exact hend (0) f17 _ _ _ _ (⟨Or.inl ⟨z_f c12, hf_mh, hf_ms, hf_ah, hf_ap, hf_ac, hf_ar, hf_awt⟩, hFr⟩) hP hS rfl dX6_foresee_20

set_option maxHeartbeats 4000000 in
set_option maxRecDepth 100000 in
theorem m_X6_overtakes (l : Launch) (g : GG) (L : List Nat) (f : Nat → va_E) (sz : Nat) (hN : L.Nodup) (mh mg mr mk mn ms n nv : Nat) (th : Int32) (gl rn kd nu sd : Nat → Int32) (nw np nc nr nwt d : Nat) (ht : Int32) (pt co ro wt : Nat → Int32) (ah ap ac ar awt d2 : Nat) (h2 : Int32) (pt2 co2 ro2 wt2 : Nat → Int32) (v x : Int32) (hL_mh : mh ∈ L) (hf_mh : f mh = eO 7 [.int th, .ref mg, .ref mr, .int (nI n), .ref mk, .ref mn, .int (nI nv), .ref ms, .ref nw, .ref ah]) (hL_mg : mg ∈ L) (hf_mg : f mg = eI g 12 gl) (hL_mr : mr ∈ L) (hf_mr : f mr = eI g 12 rn) (hL_mk : mk ∈ L) (hf_mk : f mk = eI g 8 kd) (hL_mn : mn ∈ L) (hf_mn : f mn = eI g 8 nu) (hL_ms : ms ∈ L) (hf_ms : f ms = eI g 8 sd) (hL_nw : nw ∈ L) (hf_nw : f nw = eO 6 [.int (nI d), .int ht, .ref np, .ref nc, .ref nr, .ref nwt]) (hL_np : np ∈ L) (hf_np : f np = eI g 6 pt) (hL_nc : nc ∈ L) (hf_nc : f nc = eI g 6 co) (hL_nr : nr ∈ L) (hf_nr : f nr = eI g 6 ro) (hL_nwt : nwt ∈ L) (hf_nwt : f nwt = eI g 48 wt) (hL_ah : ah ∈ L) (hf_ah : f ah = eO 6 [.int (nI d2), .int h2, .ref ap, .ref ac, .ref ar, .ref awt]) (hL_ap : ap ∈ L) (hf_ap : f ap = eI g 6 pt2) (hL_ac : ac ∈ L) (hf_ac : f ac = eI g 6 co2) (hL_ar : ar ∈ L) (hf_ar : f ar = eI g 6 ro2) (hL_awt : awt ∈ L) (hf_awt : f awt = eI g 48 wt2) (n_mk_ms : mk ≠ ms) (n_mn_ms : mn ≠ ms) (n_ah_nw : ah ≠ nw) (n_ap_ac : ap ≠ ac) (n_ap_ar : ap ≠ ar) (n_ac_ar : ac ≠ ar) (n_awt_nwt : awt ≠ nwt) (n_ap_np : ap ≠ np) (n_ap_nc : ap ≠ nc) (n_ap_nr : ap ≠ nr) (n_ac_np : ac ≠ np) (n_ac_nc : ac ≠ nc) (n_ac_nr : ac ≠ nr) (n_ar_np : ar ≠ np) (n_ar_nc : ar ≠ nc) (n_ar_nr : ar ≠ nr) (hn : n ≤ 8) (hnv : nv ≤ 6) (hd : d + 130 < 2 ^ 30) : RW l g yX6_overtakes wsX6_overtakes 4 88 L f sz [.ref mh, .int v, .int x] (fun r f2 => (((inB v nv && inB x nv) = false ∧ f2 mh = eO 7 [.int 1, .ref mg, .ref mr, .int (nI n), .ref mk, .ref mn, .int (nI nv), .ref ms, .ref nw, .ref ah] ∧ f2 ms = eI g 8 sd ∧ f2 ah = eO 6 [.int (nI d2), .int h2, .ref ap, .ref ac, .ref ar, .ref awt] ∧ f2 ap = eI g 6 pt2 ∧ f2 ac = eI g 6 co2 ∧ f2 ar = eI g 6 ro2 ∧ f2 awt = eI g 48 wt2) ∨ ((inB v nv && inB x nv) = true ∧ v = x ∧ f2 mh = eO 7 [.int 2, .ref mg, .ref mr, .int (nI n), .ref mk, .ref mn, .int (nI nv), .ref ms, .ref nw, .ref ah] ∧ f2 ms = eI g 8 sd ∧ f2 ah = eO 6 [.int (nI d2), .int h2, .ref ap, .ref ac, .ref ar, .ref awt] ∧ f2 ap = eI g 6 pt2 ∧ f2 ac = eI g 6 co2 ∧ f2 ar = eI g 6 ro2 ∧ f2 awt = eI g 48 wt2) ∨ ∃ u w i, u < nv ∧ v = nI u ∧ w < nv ∧ x = nI w ∧ u ≠ w ∧ ((i ≤ 120 ∧ r = nI i ∧ ahM kd nu gl rn n nv (sd, d, ht, pt, co, ro, wt) u w i = true ∧ ∀ j, j < i → ahM kd nu gl rn n nv (sd, d, ht, pt, co, ro, wt) u w j = false) ∨ (r = -1 ∧ ∀ j, j ≤ 120 → ahM kd nu gl rn n nv (sd, d, ht, pt, co, ro, wt) u w j = false)) ∧ f2 mh = eO 7 [.int 0, .ref mg, .ref mr, .int (nI n), .ref mk, .ref mn, .int (nI nv), .ref ms, .ref nw, .ref ah] ∧ f2 ms = eI g 8 (itM kd nu gl rn n nv (sd, d, ht, pt, co, ro, wt) i).1 ∧ f2 ah = eO 6 [.int (nI (itM kd nu gl rn n nv (sd, d, ht, pt, co, ro, wt) i).2.1), .int (itM kd nu gl rn n nv (sd, d, ht, pt, co, ro, wt) i).2.2.1, .ref ap, .ref ac, .ref ar, .ref awt] ∧ f2 ap = eI g 6 (itM kd nu gl rn n nv (sd, d, ht, pt, co, ro, wt) i).2.2.2.1 ∧ f2 ac = eI g 6 (itM kd nu gl rn n nv (sd, d, ht, pt, co, ro, wt) i).2.2.2.2.1 ∧ f2 ar = eI g 6 (itM kd nu gl rn n nv (sd, d, ht, pt, co, ro, wt) i).2.2.2.2.2.1 ∧ f2 awt = eI g 48 (itM kd nu gl rn n nv (sd, d, ht, pt, co, ro, wt) i).2.2.2.2.2.2) ∧ Fr f f2 [mh, ms, ah, ap, ac, ar, awt]) := by
  refine RW.start (cc := cX6_overtakes) (maxL := 4) (ret := .int) (by decide +kernel) rfl (by simp [lg_sl, Value.category]) ?_
  intro p e s m args below meth c Q ls A hx hb hml hts hown hA hA2 hS hP hK hl hend
  have hl : lv_has ls 4 [(0, .ref mh), (1, .int v), (2, .int x)] := hl
  have hi_X6 : ∀ w ∈ u_ws RX6 TX6 10, w ∈ wsX6_overtakes := by decide +kernel
  have hFr : Fr f f [mh, ms, ah, ap, ac, ar, awt] := Fr.rf
  have n_mh_mg : mh ≠ mg := ne_e hf_mh hf_mg (by simp)
  have n_mh_mr : mh ≠ mr := ne_e hf_mh hf_mr (by simp)
  have n_mh_mk : mh ≠ mk := ne_e hf_mh hf_mk (by simp)
  have n_mh_mn : mh ≠ mn := ne_e hf_mh hf_mn (by simp)
  have n_mh_ms : mh ≠ ms := ne_e hf_mh hf_ms (by simp)
  have n_mh_nw : mh ≠ nw := ne_e hf_mh hf_nw (by simp)
  have n_mh_np : mh ≠ np := ne_e hf_mh hf_np (by simp)
  have n_mh_nc : mh ≠ nc := ne_e hf_mh hf_nc (by simp)
  have n_mh_nr : mh ≠ nr := ne_e hf_mh hf_nr (by simp)
  have n_mh_nwt : mh ≠ nwt := ne_e hf_mh hf_nwt (by simp)
  have n_mh_ah : mh ≠ ah := ne_e hf_mh hf_ah (by simp)
  have n_mh_ap : mh ≠ ap := ne_e hf_mh hf_ap (by simp)
  have n_mh_ac : mh ≠ ac := ne_e hf_mh hf_ac (by simp)
  have n_mh_ar : mh ≠ ar := ne_e hf_mh hf_ar (by simp)
  have n_mh_awt : mh ≠ awt := ne_e hf_mh hf_awt (by simp)
  have n_mg_mk : mg ≠ mk := ne_e hf_mg hf_mk (by simp)
  have n_mg_mn : mg ≠ mn := ne_e hf_mg hf_mn (by simp)
  have n_mg_ms : mg ≠ ms := ne_e hf_mg hf_ms (by simp)
  have n_mg_nw : mg ≠ nw := ne_e hf_mg hf_nw (by simp)
  have n_mg_np : mg ≠ np := ne_e hf_mg hf_np (by simp)
  have n_mg_nc : mg ≠ nc := ne_e hf_mg hf_nc (by simp)
  have n_mg_nr : mg ≠ nr := ne_e hf_mg hf_nr (by simp)
  have n_mg_nwt : mg ≠ nwt := ne_e hf_mg hf_nwt (by simp)
  have n_mg_ah : mg ≠ ah := ne_e hf_mg hf_ah (by simp)
  have n_mg_ap : mg ≠ ap := ne_e hf_mg hf_ap (by simp)
  have n_mg_ac : mg ≠ ac := ne_e hf_mg hf_ac (by simp)
  have n_mg_ar : mg ≠ ar := ne_e hf_mg hf_ar (by simp)
  have n_mg_awt : mg ≠ awt := ne_e hf_mg hf_awt (by simp)
  have n_mr_mk : mr ≠ mk := ne_e hf_mr hf_mk (by simp)
  have n_mr_mn : mr ≠ mn := ne_e hf_mr hf_mn (by simp)
  have n_mr_ms : mr ≠ ms := ne_e hf_mr hf_ms (by simp)
  have n_mr_nw : mr ≠ nw := ne_e hf_mr hf_nw (by simp)
  have n_mr_np : mr ≠ np := ne_e hf_mr hf_np (by simp)
  have n_mr_nc : mr ≠ nc := ne_e hf_mr hf_nc (by simp)
  have n_mr_nr : mr ≠ nr := ne_e hf_mr hf_nr (by simp)
  have n_mr_nwt : mr ≠ nwt := ne_e hf_mr hf_nwt (by simp)
  have n_mr_ah : mr ≠ ah := ne_e hf_mr hf_ah (by simp)
  have n_mr_ap : mr ≠ ap := ne_e hf_mr hf_ap (by simp)
  have n_mr_ac : mr ≠ ac := ne_e hf_mr hf_ac (by simp)
  have n_mr_ar : mr ≠ ar := ne_e hf_mr hf_ar (by simp)
  have n_mr_awt : mr ≠ awt := ne_e hf_mr hf_awt (by simp)
  have n_mk_nw : mk ≠ nw := ne_e hf_mk hf_nw (by simp)
  have n_mk_np : mk ≠ np := ne_e hf_mk hf_np (by simp)
  have n_mk_nc : mk ≠ nc := ne_e hf_mk hf_nc (by simp)
  have n_mk_nr : mk ≠ nr := ne_e hf_mk hf_nr (by simp)
  have n_mk_nwt : mk ≠ nwt := ne_e hf_mk hf_nwt (by simp)
  have n_mk_ah : mk ≠ ah := ne_e hf_mk hf_ah (by simp)
  have n_mk_ap : mk ≠ ap := ne_e hf_mk hf_ap (by simp)
  have n_mk_ac : mk ≠ ac := ne_e hf_mk hf_ac (by simp)
  have n_mk_ar : mk ≠ ar := ne_e hf_mk hf_ar (by simp)
  have n_mk_awt : mk ≠ awt := ne_e hf_mk hf_awt (by simp)
  have n_mn_nw : mn ≠ nw := ne_e hf_mn hf_nw (by simp)
  have n_mn_np : mn ≠ np := ne_e hf_mn hf_np (by simp)
  have n_mn_nc : mn ≠ nc := ne_e hf_mn hf_nc (by simp)
  have n_mn_nr : mn ≠ nr := ne_e hf_mn hf_nr (by simp)
  have n_mn_nwt : mn ≠ nwt := ne_e hf_mn hf_nwt (by simp)
  have n_mn_ah : mn ≠ ah := ne_e hf_mn hf_ah (by simp)
  have n_mn_ap : mn ≠ ap := ne_e hf_mn hf_ap (by simp)
  have n_mn_ac : mn ≠ ac := ne_e hf_mn hf_ac (by simp)
  have n_mn_ar : mn ≠ ar := ne_e hf_mn hf_ar (by simp)
  have n_mn_awt : mn ≠ awt := ne_e hf_mn hf_awt (by simp)
  have n_ms_nw : ms ≠ nw := ne_e hf_ms hf_nw (by simp)
  have n_ms_np : ms ≠ np := ne_e hf_ms hf_np (by simp)
  have n_ms_nc : ms ≠ nc := ne_e hf_ms hf_nc (by simp)
  have n_ms_nr : ms ≠ nr := ne_e hf_ms hf_nr (by simp)
  have n_ms_nwt : ms ≠ nwt := ne_e hf_ms hf_nwt (by simp)
  have n_ms_ah : ms ≠ ah := ne_e hf_ms hf_ah (by simp)
  have n_ms_ap : ms ≠ ap := ne_e hf_ms hf_ap (by simp)
  have n_ms_ac : ms ≠ ac := ne_e hf_ms hf_ac (by simp)
  have n_ms_ar : ms ≠ ar := ne_e hf_ms hf_ar (by simp)
  have n_ms_awt : ms ≠ awt := ne_e hf_ms hf_awt (by simp)
  have n_nw_np : nw ≠ np := ne_e hf_nw hf_np (by simp)
  have n_nw_nc : nw ≠ nc := ne_e hf_nw hf_nc (by simp)
  have n_nw_nr : nw ≠ nr := ne_e hf_nw hf_nr (by simp)
  have n_nw_nwt : nw ≠ nwt := ne_e hf_nw hf_nwt (by simp)
  have n_nw_ap : nw ≠ ap := ne_e hf_nw hf_ap (by simp)
  have n_nw_ac : nw ≠ ac := ne_e hf_nw hf_ac (by simp)
  have n_nw_ar : nw ≠ ar := ne_e hf_nw hf_ar (by simp)
  have n_nw_awt : nw ≠ awt := ne_e hf_nw hf_awt (by simp)
  have n_np_nwt : np ≠ nwt := ne_e hf_np hf_nwt (by simp)
  have n_np_ah : np ≠ ah := ne_e hf_np hf_ah (by simp)
  have n_np_awt : np ≠ awt := ne_e hf_np hf_awt (by simp)
  have n_nc_nwt : nc ≠ nwt := ne_e hf_nc hf_nwt (by simp)
  have n_nc_ah : nc ≠ ah := ne_e hf_nc hf_ah (by simp)
  have n_nc_awt : nc ≠ awt := ne_e hf_nc hf_awt (by simp)
  have n_nr_nwt : nr ≠ nwt := ne_e hf_nr hf_nwt (by simp)
  have n_nr_ah : nr ≠ ah := ne_e hf_nr hf_ah (by simp)
  have n_nr_awt : nr ≠ awt := ne_e hf_nr hf_awt (by simp)
  have n_nwt_ah : nwt ≠ ah := ne_e hf_nwt hf_ah (by simp)
  have n_nwt_ap : nwt ≠ ap := ne_e hf_nwt hf_ap (by simp)
  have n_nwt_ac : nwt ≠ ac := ne_e hf_nwt hf_ac (by simp)
  have n_nwt_ar : nwt ≠ ar := ne_e hf_nwt hf_ar (by simp)
  have n_ah_ap : ah ≠ ap := ne_e hf_ah hf_ap (by simp)
  have n_ah_ac : ah ≠ ac := ne_e hf_ah hf_ac (by simp)
  have n_ah_ar : ah ≠ ar := ne_e hf_ah hf_ar (by simp)
  have n_ah_awt : ah ≠ awt := ne_e hf_ah hf_awt (by simp)
  have n_ap_awt : ap ≠ awt := ne_e hf_ap hf_awt (by simp)
  have n_ac_awt : ac ≠ awt := ne_e hf_ac hf_awt (by simp)
  have n_ar_awt : ar ≠ awt := ne_e hf_ar hf_awt (by simp)
  have h0f_mh := hf_mh
  have h0f_mg := hf_mg
  have h0f_mr := hf_mr
  have h0f_mk := hf_mk
  have h0f_mn := hf_mn
  have h0f_ms := hf_ms
  have h0f_nw := hf_nw
  have h0f_np := hf_np
  have h0f_nc := hf_nc
  have h0f_nr := hf_nr
  have h0f_nwt := hf_nwt
  have h0f_ah := hf_ah
  have h0f_ap := hf_ap
  have h0f_ac := hf_ac
  have h0f_ar := hf_ar
  have h0f_awt := hf_awt
  refine lv_aload_n hx hb dX6_overtakes_0 rfl (lv_at hl 0 rfl) ?_
  refine lv_iconst (v := 0) hx hb dX6_overtakes_1 (by decide) ?_
  refine pg_put (ty := .int) (C := RX6) (T := TX6) (N := 10) hx hb hts hi_X6 tyX6 tyX6_ok nmX6 hown hK hP hN hA hS hL_mh hf_mh rfl 0 (by decide) (hts (.fieldLink RX6 41 "BarometerLeagueModel" "thrown" "I") (by decide +kernel)) (fun _ h9 => h9) rfl (by decide +kernel) rfl rfl (Nat.le_of_ble_eq_true rfl) dX6_overtakes_2 (fun H locs hP hS => ?_)
  obtain ⟨f2, ef2⟩ : ∃ z, z = va_up f mh (eO 7 [.int 0, .ref mg, .ref mr, .int (nI n), .ref mk, .ref mn, .int (nI nv), .ref ms, .ref nw, .ref ah]) := ⟨_, rfl⟩
  replace hP : PP g L f2 H := by rw [ef2]; exact hP
  have hf_mg : f2 mg = eI g 12 gl := by rw [ef2, va_up_ne _ _ n_mh_mg.symm]; exact hf_mg
  have hf_mr : f2 mr = eI g 12 rn := by rw [ef2, va_up_ne _ _ n_mh_mr.symm]; exact hf_mr
  have hf_mk : f2 mk = eI g 8 kd := by rw [ef2, va_up_ne _ _ n_mh_mk.symm]; exact hf_mk
  have hf_mn : f2 mn = eI g 8 nu := by rw [ef2, va_up_ne _ _ n_mh_mn.symm]; exact hf_mn
  have hf_ms : f2 ms = eI g 8 sd := by rw [ef2, va_up_ne _ _ n_mh_ms.symm]; exact hf_ms
  have hf_nw : f2 nw = eO 6 [.int (nI d), .int ht, .ref np, .ref nc, .ref nr, .ref nwt] := by rw [ef2, va_up_ne _ _ n_mh_nw.symm]; exact hf_nw
  have hf_np : f2 np = eI g 6 pt := by rw [ef2, va_up_ne _ _ n_mh_np.symm]; exact hf_np
  have hf_nc : f2 nc = eI g 6 co := by rw [ef2, va_up_ne _ _ n_mh_nc.symm]; exact hf_nc
  have hf_nr : f2 nr = eI g 6 ro := by rw [ef2, va_up_ne _ _ n_mh_nr.symm]; exact hf_nr
  have hf_nwt : f2 nwt = eI g 48 wt := by rw [ef2, va_up_ne _ _ n_mh_nwt.symm]; exact hf_nwt
  have hf_ah : f2 ah = eO 6 [.int (nI d2), .int h2, .ref ap, .ref ac, .ref ar, .ref awt] := by rw [ef2, va_up_ne _ _ n_mh_ah.symm]; exact hf_ah
  have hf_ap : f2 ap = eI g 6 pt2 := by rw [ef2, va_up_ne _ _ n_mh_ap.symm]; exact hf_ap
  have hf_ac : f2 ac = eI g 6 co2 := by rw [ef2, va_up_ne _ _ n_mh_ac.symm]; exact hf_ac
  have hf_ar : f2 ar = eI g 6 ro2 := by rw [ef2, va_up_ne _ _ n_mh_ar.symm]; exact hf_ar
  have hf_awt : f2 awt = eI g 48 wt2 := by rw [ef2, va_up_ne _ _ n_mh_awt.symm]; exact hf_awt
  have hf_mh : f2 mh = eO 7 [.int 0, .ref mg, .ref mr, .int (nI n), .ref mk, .ref mn, .int (nI nv), .ref ms, .ref nw, .ref ah] := by rw [ef2]; exact va_up_self _ _ _
  replace hFr : Fr f f2 [mh, ms, ah, ap, ac, ar, awt] := by rw [ef2]; exact hFr.up (by simp)
  refine lv_aload_n hx hb dX6_overtakes_5 rfl (lv_at hl 0 rfl) ?_
  refine lv_iload_n hx hb dX6_overtakes_6 rfl (lv_at hl 1 rfl) ?_
  refine ro_V (As := [.int v]) (rest := []) ⟨hx, hb, hml, hown, hts⟩ (m_X6_isVillage l g L f2 _ _ _ _ _ _ _ _ _ _ _ v hL_mh hf_mh (by assumption) (by assumption)) (cwV 1 hts gX6_overtakes_X6_isVillage rfl rfl rfl (by decide +kernel) ⟨Nat.le_of_ble_eq_true rfl, Nat.le_of_ble_eq_true rfl⟩) hK hP hL_mh hf_mh rfl rfl hl.1 rfl (Nat.le_of_ble_eq_true rfl) dX6_overtakes_7 ⟨Nat.zero_le _, Nat.zero_le _⟩ (fun r7 hr7 => ?_)
  have hr7 : r7 = b2i (inB v nv) := hr7
  subst hr7
  refine lv_if_eq (tgt := 21) hx hb dX6_overtakes_10 (by decide) (fun c10 => ?_) (fun c10 => ?_)
  · skip
    refine lv_aload_n hx hb dX6_overtakes_21 rfl (lv_at hl 0 rfl) ?_
    refine lv_iconst (v := 1) hx hb dX6_overtakes_22 (by decide) ?_
    refine rw_V (As := [.int 1]) (rest := []) ⟨hx, hb, hml, hown, hts⟩ (m_X6_no l g L f2 _ hN _ _ _ _ _ _ _ _ _ _ _ _ hL_mh hf_mh) (cwV 1 hts gX6_overtakes_X6_no rfl rfl rfl (by decide +kernel) ⟨Nat.le_of_ble_eq_true rfl, Nat.le_of_ble_eq_true rfl⟩) hK hP hA hA2 hS hL_mh hf_mh rfl rfl hl.1 rfl (Nat.le_of_ble_eq_true rfl) dX6_overtakes_23 ⟨Nat.zero_le _, Nat.zero_le _⟩ (fun r23 f23 H locs hr23 hP hS => ?_)
    obtain ⟨hv23, hc23_0, hw23⟩ := hr23
    have hf_mg : f23 mg = eI g 12 gl := hw23.get hf_mg (nm_c n_mh_mg.symm (List.not_mem_nil))
    have hf_mr : f23 mr = eI g 12 rn := hw23.get hf_mr (nm_c n_mh_mr.symm (List.not_mem_nil))
    have hf_mk : f23 mk = eI g 8 kd := hw23.get hf_mk (nm_c n_mh_mk.symm (List.not_mem_nil))
    have hf_mn : f23 mn = eI g 8 nu := hw23.get hf_mn (nm_c n_mh_mn.symm (List.not_mem_nil))
    have hf_ms : f23 ms = eI g 8 sd := hw23.get hf_ms (nm_c n_mh_ms.symm (List.not_mem_nil))
    have hf_nw : f23 nw = eO 6 [.int (nI d), .int ht, .ref np, .ref nc, .ref nr, .ref nwt] := hw23.get hf_nw (nm_c n_mh_nw.symm (List.not_mem_nil))
    have hf_np : f23 np = eI g 6 pt := hw23.get hf_np (nm_c n_mh_np.symm (List.not_mem_nil))
    have hf_nc : f23 nc = eI g 6 co := hw23.get hf_nc (nm_c n_mh_nc.symm (List.not_mem_nil))
    have hf_nr : f23 nr = eI g 6 ro := hw23.get hf_nr (nm_c n_mh_nr.symm (List.not_mem_nil))
    have hf_nwt : f23 nwt = eI g 48 wt := hw23.get hf_nwt (nm_c n_mh_nwt.symm (List.not_mem_nil))
    have hf_ah : f23 ah = eO 6 [.int (nI d2), .int h2, .ref ap, .ref ac, .ref ar, .ref awt] := hw23.get hf_ah (nm_c n_mh_ah.symm (List.not_mem_nil))
    have hf_ap : f23 ap = eI g 6 pt2 := hw23.get hf_ap (nm_c n_mh_ap.symm (List.not_mem_nil))
    have hf_ac : f23 ac = eI g 6 co2 := hw23.get hf_ac (nm_c n_mh_ac.symm (List.not_mem_nil))
    have hf_ar : f23 ar = eI g 6 ro2 := hw23.get hf_ar (nm_c n_mh_ar.symm (List.not_mem_nil))
    have hf_awt : f23 awt = eI g 48 wt2 := hw23.get hf_awt (nm_c n_mh_awt.symm (List.not_mem_nil))
    have hf_mh : f23 mh = eO 7 [.int 1, .ref mg, .ref mr, .int (nI n), .ref mk, .ref mn, .int (nI nv), .ref ms, .ref nw, .ref ah] := hc23_0
    replace hFr : Fr f f23 [mh, ms, ah, ap, ac, ar, awt] := hFr.tr hw23 (by simp)
    subst hv23
    exact hend (0) f23 _ _ _ _ (⟨Or.inl ⟨by rw [z_f c10]; rfl, hf_mh, hf_ms, hf_ah, hf_ap, hf_ac, hf_ar, hf_awt⟩, hFr⟩) hP hS rfl dX6_overtakes_26
  · skip
    refine lv_aload_n hx hb dX6_overtakes_13 rfl (lv_at hl 0 rfl) ?_
    refine lv_iload_n hx hb dX6_overtakes_14 rfl (lv_at hl 2 rfl) ?_
    refine ro_V (As := [.int x]) (rest := []) ⟨hx, hb, hml, hown, hts⟩ (m_X6_isVillage l g L f2 _ _ _ _ _ _ _ _ _ _ _ x hL_mh hf_mh (by assumption) (by assumption)) (cwV 1 hts gX6_overtakes_X6_isVillage rfl rfl rfl (by decide +kernel) ⟨Nat.le_of_ble_eq_true rfl, Nat.le_of_ble_eq_true rfl⟩) hK hP hL_mh hf_mh rfl rfl hl.1 rfl (Nat.le_of_ble_eq_true rfl) dX6_overtakes_15 ⟨Nat.zero_le _, Nat.zero_le _⟩ (fun r15 hr15 => ?_)
    have hr15 : r15 = b2i (inB x nv) := hr15
    subst hr15
    refine lv_if_ne (tgt := 27) hx hb dX6_overtakes_18 (by decide) (fun c18 => ?_) (fun c18 => ?_)
    · skip
      obtain ⟨u, hu, rfl⟩ := inB_of (nz_t c10) (by omega)
      obtain ⟨w, hw, rfl⟩ := inB_of (nz_t c18) (by omega)
      refine lv_iload_n hx hb dX6_overtakes_27 rfl (lv_at hl 1 rfl) ?_
      refine lv_iload_n hx hb dX6_overtakes_28 rfl (lv_at hl 2 rfl) ?_
      refine lv_icmp_ne (tgt := 38) hx hb dX6_overtakes_29 (by decide) (fun c29 => ?_) (fun c29 => ?_)
      · skip
        have c29 : ¬ u = w := fun h => c29 ((nI_eq (a := u) (b := w) (by omega) (by omega)).mpr h)
        refine lv_aload_n hx hb dX6_overtakes_38 rfl (lv_at hl 0 rfl) ?_
        refine rf_V (As := []) (rest := []) ⟨hx, hb, hml, hown, hts⟩ (m_X6_lookAhead l g L f2 _ hN _ _ _ _ _ _ _ _ _ _ _ _ _ _ _ _ _ _ _ _ _ _ _ _ _ _ _ _ _ _ _ hL_mh hf_mh hL_nw hf_nw hL_np hf_np hL_nc hf_nc hL_nr hf_nr hL_nwt hf_nwt hL_ah hf_ah hL_ap hf_ap hL_ac hf_ac hL_ar hf_ar hL_awt hf_awt n_ah_nw n_ap_ac n_ap_ar n_ac_ar n_awt_nwt n_ap_np n_ap_nc n_ap_nr n_ac_np n_ac_nc n_ac_nr n_ar_np n_ar_nc n_ar_nr) (cwV 0 hts gX6_overtakes_X6_lookAhead rfl rfl rfl (by decide +kernel) ⟨Nat.le_of_ble_eq_true rfl, Nat.le_of_ble_eq_true rfl⟩) hK hP hA hA2 hS hL_mh hf_mh rfl rfl hl.1 rfl (Nat.le_of_ble_eq_true rfl) dX6_overtakes_39 ⟨Nat.zero_le _, Nat.zero_le _⟩ (fun f39 H locs hr39 hP hS => ?_)
        obtain ⟨hc39_0, hc39_1, hc39_2, hc39_3, hc39_4, hw39⟩ := hr39
        have hf_mh : f39 mh = eO 7 [.int 0, .ref mg, .ref mr, .int (nI n), .ref mk, .ref mn, .int (nI nv), .ref ms, .ref nw, .ref ah] := hw39.get hf_mh (nm_c n_mh_ah (nm_c n_mh_ap (nm_c n_mh_ac (nm_c n_mh_ar (nm_c n_mh_awt (List.not_mem_nil))))))
        have hf_mg : f39 mg = eI g 12 gl := hw39.get hf_mg (nm_c n_mg_ah (nm_c n_mg_ap (nm_c n_mg_ac (nm_c n_mg_ar (nm_c n_mg_awt (List.not_mem_nil))))))
        have hf_mr : f39 mr = eI g 12 rn := hw39.get hf_mr (nm_c n_mr_ah (nm_c n_mr_ap (nm_c n_mr_ac (nm_c n_mr_ar (nm_c n_mr_awt (List.not_mem_nil))))))
        have hf_mk : f39 mk = eI g 8 kd := hw39.get hf_mk (nm_c n_mk_ah (nm_c n_mk_ap (nm_c n_mk_ac (nm_c n_mk_ar (nm_c n_mk_awt (List.not_mem_nil))))))
        have hf_mn : f39 mn = eI g 8 nu := hw39.get hf_mn (nm_c n_mn_ah (nm_c n_mn_ap (nm_c n_mn_ac (nm_c n_mn_ar (nm_c n_mn_awt (List.not_mem_nil))))))
        have hf_ms : f39 ms = eI g 8 sd := hw39.get hf_ms (nm_c n_ms_ah (nm_c n_ms_ap (nm_c n_ms_ac (nm_c n_ms_ar (nm_c n_ms_awt (List.not_mem_nil))))))
        have hf_nw : f39 nw = eO 6 [.int (nI d), .int ht, .ref np, .ref nc, .ref nr, .ref nwt] := hw39.get hf_nw (nm_c n_ah_nw.symm (nm_c n_nw_ap (nm_c n_nw_ac (nm_c n_nw_ar (nm_c n_nw_awt (List.not_mem_nil))))))
        have hf_np : f39 np = eI g 6 pt := hw39.get hf_np (nm_c n_np_ah (nm_c n_ap_np.symm (nm_c n_ac_np.symm (nm_c n_ar_np.symm (nm_c n_np_awt (List.not_mem_nil))))))
        have hf_nc : f39 nc = eI g 6 co := hw39.get hf_nc (nm_c n_nc_ah (nm_c n_ap_nc.symm (nm_c n_ac_nc.symm (nm_c n_ar_nc.symm (nm_c n_nc_awt (List.not_mem_nil))))))
        have hf_nr : f39 nr = eI g 6 ro := hw39.get hf_nr (nm_c n_nr_ah (nm_c n_ap_nr.symm (nm_c n_ac_nr.symm (nm_c n_ar_nr.symm (nm_c n_nr_awt (List.not_mem_nil))))))
        have hf_nwt : f39 nwt = eI g 48 wt := hw39.get hf_nwt (nm_c n_nwt_ah (nm_c n_nwt_ap (nm_c n_nwt_ac (nm_c n_nwt_ar (nm_c n_awt_nwt.symm (List.not_mem_nil))))))
        have hf_ah : f39 ah = eO 6 [.int (nI d), .int ht, .ref ap, .ref ac, .ref ar, .ref awt] := hc39_0
        have hf_ap : f39 ap = eI g 6 pt := hc39_1
        have hf_ac : f39 ac = eI g 6 co := hc39_2
        have hf_ar : f39 ar = eI g 6 ro := hc39_3
        have hf_awt : f39 awt = eI g 48 wt := hc39_4
        replace hFr : Fr f f39 [mh, ms, ah, ap, ac, ar, awt] := hFr.tr hw39 (by simp)
        refine lv_pop hx hb dX6_overtakes_42 rfl ?_
        refine lv_iconst (v := 0) hx hb dX6_overtakes_43 (by decide) ?_
        refine lv_istore_n (lv' := [(3, .int 0), (0, .ref mh), (1, .int (nI u)), (2, .int (nI w))]) hx hb dX6_overtakes_44 rfl hl (by decide) rfl (fun ls hl => ?_)
        have K45 : ∀ (n45 : Nat) (i : Nat) (f45 : Nat → va_E) (H : Heap) (locs : List Loc), 122 - i < n45 → i ≤ 121 → (∀ j, j < i → ahM kd nu gl rn n nv (sd, d, ht, pt, co, ro, wt) u w j = false) → f45 ms = eI g 8 ((itM kd nu gl rn n nv (sd, d, ht, pt, co, ro, wt) i).1) → f45 ah = eO 6 [.int (nI ((itM kd nu gl rn n nv (sd, d, ht, pt, co, ro, wt) i).2.1)), .int ((itM kd nu gl rn n nv (sd, d, ht, pt, co, ro, wt) i).2.2.1), .ref ap, .ref ac, .ref ar, .ref awt] → f45 ap = eI g 6 ((itM kd nu gl rn n nv (sd, d, ht, pt, co, ro, wt) i).2.2.2.1) → f45 ac = eI g 6 ((itM kd nu gl rn n nv (sd, d, ht, pt, co, ro, wt) i).2.2.2.2.1) → f45 ar = eI g 6 ((itM kd nu gl rn n nv (sd, d, ht, pt, co, ro, wt) i).2.2.2.2.2.1) → f45 awt = eI g 48 ((itM kd nu gl rn n nv (sd, d, ht, pt, co, ro, wt) i).2.2.2.2.2.2) → f45 mh = eO 7 [.int 0, .ref mg, .ref mr, .int (nI n), .ref mk, .ref mn, .int (nI nv), .ref ms, .ref nw, .ref ah] → Fr f f45 [mh, ms, ah, ap, ac, ar, awt] → PP g L f45 H → va_S A s.heap H locs → ∀ (ls : Array Slot), lv_has ls 4 [(3, .int (nI i)), (2, .int (nI w)), (1, .int (nI u)), (0, .ref mh)] → W p l e ({ frames := 4, cells := 0, slots := 0, locals := 88 } : Room) s m args below meth c H locs 0 0 Q (F0 m 45 ls []) := by
          intro n45
          induction n45 with
          | zero => intros; omega
          | succ n45 ih45 =>
            intro i f45 H locs hm45 hi ha hq45_0 hq45_1 hq45_2 hq45_3 hq45_4 hq45_5 hq45_6 hFr hP hS ls hl
            have hf_mg : f45 mg = eI g 12 gl := hFr.get h0f_mg (nm_c n_mh_mg.symm (nm_c n_mg_ms (nm_c n_mg_ah (nm_c n_mg_ap (nm_c n_mg_ac (nm_c n_mg_ar (nm_c n_mg_awt (List.not_mem_nil))))))))
            have hf_mr : f45 mr = eI g 12 rn := hFr.get h0f_mr (nm_c n_mh_mr.symm (nm_c n_mr_ms (nm_c n_mr_ah (nm_c n_mr_ap (nm_c n_mr_ac (nm_c n_mr_ar (nm_c n_mr_awt (List.not_mem_nil))))))))
            have hf_mk : f45 mk = eI g 8 kd := hFr.get h0f_mk (nm_c n_mh_mk.symm (nm_c n_mk_ms (nm_c n_mk_ah (nm_c n_mk_ap (nm_c n_mk_ac (nm_c n_mk_ar (nm_c n_mk_awt (List.not_mem_nil))))))))
            have hf_mn : f45 mn = eI g 8 nu := hFr.get h0f_mn (nm_c n_mh_mn.symm (nm_c n_mn_ms (nm_c n_mn_ah (nm_c n_mn_ap (nm_c n_mn_ac (nm_c n_mn_ar (nm_c n_mn_awt (List.not_mem_nil))))))))
            have hf_nw : f45 nw = eO 6 [.int (nI d), .int ht, .ref np, .ref nc, .ref nr, .ref nwt] := hFr.get h0f_nw (nm_c n_mh_nw.symm (nm_c n_ms_nw.symm (nm_c n_ah_nw.symm (nm_c n_nw_ap (nm_c n_nw_ac (nm_c n_nw_ar (nm_c n_nw_awt (List.not_mem_nil))))))))
            have hf_np : f45 np = eI g 6 pt := hFr.get h0f_np (nm_c n_mh_np.symm (nm_c n_ms_np.symm (nm_c n_np_ah (nm_c n_ap_np.symm (nm_c n_ac_np.symm (nm_c n_ar_np.symm (nm_c n_np_awt (List.not_mem_nil))))))))
            have hf_nc : f45 nc = eI g 6 co := hFr.get h0f_nc (nm_c n_mh_nc.symm (nm_c n_ms_nc.symm (nm_c n_nc_ah (nm_c n_ap_nc.symm (nm_c n_ac_nc.symm (nm_c n_ar_nc.symm (nm_c n_nc_awt (List.not_mem_nil))))))))
            have hf_nr : f45 nr = eI g 6 ro := hFr.get h0f_nr (nm_c n_mh_nr.symm (nm_c n_ms_nr.symm (nm_c n_nr_ah (nm_c n_ap_nr.symm (nm_c n_ac_nr.symm (nm_c n_ar_nr.symm (nm_c n_nr_awt (List.not_mem_nil))))))))
            have hf_nwt : f45 nwt = eI g 48 wt := hFr.get h0f_nwt (nm_c n_mh_nwt.symm (nm_c n_ms_nwt.symm (nm_c n_nwt_ah (nm_c n_nwt_ap (nm_c n_nwt_ac (nm_c n_nwt_ar (nm_c n_awt_nwt.symm (List.not_mem_nil))))))))
            have hf_ms : f45 ms = eI g 8 ((itM kd nu gl rn n nv (sd, d, ht, pt, co, ro, wt) i).1) := hq45_0
            have hf_ah : f45 ah = eO 6 [.int (nI ((itM kd nu gl rn n nv (sd, d, ht, pt, co, ro, wt) i).2.1)), .int ((itM kd nu gl rn n nv (sd, d, ht, pt, co, ro, wt) i).2.2.1), .ref ap, .ref ac, .ref ar, .ref awt] := hq45_1
            have hf_ap : f45 ap = eI g 6 ((itM kd nu gl rn n nv (sd, d, ht, pt, co, ro, wt) i).2.2.2.1) := hq45_2
            have hf_ac : f45 ac = eI g 6 ((itM kd nu gl rn n nv (sd, d, ht, pt, co, ro, wt) i).2.2.2.2.1) := hq45_3
            have hf_ar : f45 ar = eI g 6 ((itM kd nu gl rn n nv (sd, d, ht, pt, co, ro, wt) i).2.2.2.2.2.1) := hq45_4
            have hf_awt : f45 awt = eI g 48 ((itM kd nu gl rn n nv (sd, d, ht, pt, co, ro, wt) i).2.2.2.2.2.2) := hq45_5
            have hf_mh : f45 mh = eO 7 [.int 0, .ref mg, .ref mr, .int (nI n), .ref mk, .ref mn, .int (nI nv), .ref ms, .ref nw, .ref ah] := hq45_6
            refine lv_iload_n hx hb dX6_overtakes_45 rfl (lv_at hl 0 rfl) ?_
            refine lv_bipush (v := 120) hx hb dX6_overtakes_46 (by decide) ?_
            refine lv_icmp_gt (tgt := 79) hx hb dX6_overtakes_48 (by decide) (fun c48 => ?_) (fun c48 => ?_)
            · skip
              have c48 : 120 < i := (nI_ltI (a := 120) (b := i) (by omega) (by omega)).mp (show nI 120 < nI i from c48)
              refine lv_iconst (v := (-1)) hx hb dX6_overtakes_79 (by decide) ?_
              exact hend ((-1)) f45 _ _ _ _ (⟨Or.inr (Or.inr ⟨u, w, i, hu, rfl, hw, rfl, c29, Or.inr ⟨rfl, fun j hj => ha j (by omega)⟩, hf_mh, hf_ms, hf_ah, hf_ap, hf_ac, hf_ar, hf_awt⟩), hFr⟩) hP hS rfl dX6_overtakes_80
            · skip
              have c48 : ¬ 120 < i := fun h => c48 ((nI_ltI (a := 120) (b := i) (by omega) (by omega)).mpr h)
              refine lv_aload_n hx hb dX6_overtakes_51 rfl (lv_at hl 3 rfl) ?_
              refine pg_get (C := RX6) (T := TX6) (N := 10) hx hb hts hi_X6 hown hK hP hL_mh hf_mh rfl 9 (by decide) (hts (.fieldLink RX6 32 "BarometerLeagueModel" "ahead" "LBarometerLeagueModel$State;") (by decide +kernel)) (fun _ h9 => h9) rfl dX6_overtakes_52 ?_
              refine lv_iload_n hx hb dX6_overtakes_55 rfl (lv_at hl 2 rfl) ?_
              refine lv_iload_n hx hb dX6_overtakes_56 rfl (lv_at hl 1 rfl) ?_
              refine ro_S (As := [.ref ah, .int (nI u), .int (nI w)]) (rest := []) ⟨hx, hb, hml, hown, hts⟩ (m_X6_isBetter l g L f45 _ _ _ _ _ _ _ _ _ u w hL_ah hf_ah hL_ap hf_ap hL_ac hf_ac (by omega) (by omega)) (va_cwS 3 hts gX6_overtakes_X6_isBetter rfl rfl rfl (by decide +kernel) ⟨Nat.le_of_ble_eq_true rfl, Nat.le_of_ble_eq_true rfl⟩) hK hP rfl hl.1 rfl (Nat.le_of_ble_eq_true rfl) dX6_overtakes_57 ⟨Nat.zero_le _, Nat.zero_le _⟩ (fun r57 hr57 => ?_)
              have hr57 : r57 = b2i (ahM kd nu gl rn n nv (sd, d, ht, pt, co, ro, wt) u w i) := hr57
              subst hr57
              refine lv_if_eq (tgt := 65) hx hb dX6_overtakes_60 (by decide) (fun c60 => ?_) (fun c60 => ?_)
              · skip
                refine lv_aload_n hx hb dX6_overtakes_65 rfl (lv_at hl 3 rfl) ?_
                refine lv_aload_n hx hb dX6_overtakes_66 rfl (lv_at hl 3 rfl) ?_
                refine pg_get (C := RX6) (T := TX6) (N := 10) hx hb hts hi_X6 hown hK hP hL_mh hf_mh rfl 9 (by decide) (hts (.fieldLink RX6 32 "BarometerLeagueModel" "ahead" "LBarometerLeagueModel$State;") (by decide +kernel)) (fun _ h9 => h9) rfl dX6_overtakes_67 ?_
                refine rv_V (As := [.ref ah]) (rest := []) ⟨hx, hb, hml, hown, hts⟩ (m_X6_pass l g L f45 _ hN _ _ _ _ _ _ _ _ _ _ _ _ _ _ _ _ _ _ _ _ _ _ _ _ _ _ _ hL_mh hf_mh hL_mg hf_mg hL_mr hf_mr hL_mk hf_mk hL_mn hf_mn hL_ms hf_ms hL_ah hf_ah hL_ap hf_ap hL_ac hf_ac hL_ar hf_ar hL_awt hf_awt n_mk_ms n_mn_ms n_ap_ac n_ap_ar n_ac_ar hn hnv (itM_dlt (show d + i < 2 ^ 30 by omega))) (cwV 1 hts gX6_overtakes_X6_pass rfl rfl rfl (by decide +kernel) ⟨Nat.le_of_ble_eq_true rfl, Nat.le_of_ble_eq_true rfl⟩) hK hP hA hA2 hS hL_mh hf_mh rfl rfl hl.1 rfl (Nat.le_of_ble_eq_true rfl) dX6_overtakes_70 ⟨Nat.zero_le _, Nat.zero_le _⟩ (fun f70 H locs hr70 hP hS => ?_)
                obtain ⟨hc70_0, hc70_1, hc70_2, hc70_3, hc70_4, hc70_5, hw70⟩ := hr70
                have hf_mh : f70 mh = eO 7 [.int 0, .ref mg, .ref mr, .int (nI n), .ref mk, .ref mn, .int (nI nv), .ref ms, .ref nw, .ref ah] := hw70.get hf_mh (nm_c n_mh_ms (nm_c n_mh_ah (nm_c n_mh_ap (nm_c n_mh_ac (nm_c n_mh_ar (nm_c n_mh_awt (List.not_mem_nil)))))))
                have hf_mg : f70 mg = eI g 12 gl := hw70.get hf_mg (nm_c n_mg_ms (nm_c n_mg_ah (nm_c n_mg_ap (nm_c n_mg_ac (nm_c n_mg_ar (nm_c n_mg_awt (List.not_mem_nil)))))))
                have hf_mr : f70 mr = eI g 12 rn := hw70.get hf_mr (nm_c n_mr_ms (nm_c n_mr_ah (nm_c n_mr_ap (nm_c n_mr_ac (nm_c n_mr_ar (nm_c n_mr_awt (List.not_mem_nil)))))))
                have hf_mk : f70 mk = eI g 8 kd := hw70.get hf_mk (nm_c n_mk_ms (nm_c n_mk_ah (nm_c n_mk_ap (nm_c n_mk_ac (nm_c n_mk_ar (nm_c n_mk_awt (List.not_mem_nil)))))))
                have hf_mn : f70 mn = eI g 8 nu := hw70.get hf_mn (nm_c n_mn_ms (nm_c n_mn_ah (nm_c n_mn_ap (nm_c n_mn_ac (nm_c n_mn_ar (nm_c n_mn_awt (List.not_mem_nil)))))))
                have hf_nw : f70 nw = eO 6 [.int (nI d), .int ht, .ref np, .ref nc, .ref nr, .ref nwt] := hw70.get hf_nw (nm_c n_ms_nw.symm (nm_c n_ah_nw.symm (nm_c n_nw_ap (nm_c n_nw_ac (nm_c n_nw_ar (nm_c n_nw_awt (List.not_mem_nil)))))))
                have hf_np : f70 np = eI g 6 pt := hw70.get hf_np (nm_c n_ms_np.symm (nm_c n_np_ah (nm_c n_ap_np.symm (nm_c n_ac_np.symm (nm_c n_ar_np.symm (nm_c n_np_awt (List.not_mem_nil)))))))
                have hf_nc : f70 nc = eI g 6 co := hw70.get hf_nc (nm_c n_ms_nc.symm (nm_c n_nc_ah (nm_c n_ap_nc.symm (nm_c n_ac_nc.symm (nm_c n_ar_nc.symm (nm_c n_nc_awt (List.not_mem_nil)))))))
                have hf_nr : f70 nr = eI g 6 ro := hw70.get hf_nr (nm_c n_ms_nr.symm (nm_c n_nr_ah (nm_c n_ap_nr.symm (nm_c n_ac_nr.symm (nm_c n_ar_nr.symm (nm_c n_nr_awt (List.not_mem_nil)))))))
                have hf_nwt : f70 nwt = eI g 48 wt := hw70.get hf_nwt (nm_c n_ms_nwt.symm (nm_c n_nwt_ah (nm_c n_nwt_ap (nm_c n_nwt_ac (nm_c n_nwt_ar (nm_c n_awt_nwt.symm (List.not_mem_nil)))))))
                have hf_ms : f70 ms = eI g 8 ((passM kd nu gl rn n nv ((itM kd nu gl rn n nv (sd, d, ht, pt, co, ro, wt) i).1, (itM kd nu gl rn n nv (sd, d, ht, pt, co, ro, wt) i).2.1, (itM kd nu gl rn n nv (sd, d, ht, pt, co, ro, wt) i).2.2.1, (itM kd nu gl rn n nv (sd, d, ht, pt, co, ro, wt) i).2.2.2.1, (itM kd nu gl rn n nv (sd, d, ht, pt, co, ro, wt) i).2.2.2.2.1, (itM kd nu gl rn n nv (sd, d, ht, pt, co, ro, wt) i).2.2.2.2.2.1, (itM kd nu gl rn n nv (sd, d, ht, pt, co, ro, wt) i).2.2.2.2.2.2)).1) := hc70_0
                have hf_ah : f70 ah = eO 6 [.int (nI ((passM kd nu gl rn n nv ((itM kd nu gl rn n nv (sd, d, ht, pt, co, ro, wt) i).1, (itM kd nu gl rn n nv (sd, d, ht, pt, co, ro, wt) i).2.1, (itM kd nu gl rn n nv (sd, d, ht, pt, co, ro, wt) i).2.2.1, (itM kd nu gl rn n nv (sd, d, ht, pt, co, ro, wt) i).2.2.2.1, (itM kd nu gl rn n nv (sd, d, ht, pt, co, ro, wt) i).2.2.2.2.1, (itM kd nu gl rn n nv (sd, d, ht, pt, co, ro, wt) i).2.2.2.2.2.1, (itM kd nu gl rn n nv (sd, d, ht, pt, co, ro, wt) i).2.2.2.2.2.2)).2.1)), .int ((passM kd nu gl rn n nv ((itM kd nu gl rn n nv (sd, d, ht, pt, co, ro, wt) i).1, (itM kd nu gl rn n nv (sd, d, ht, pt, co, ro, wt) i).2.1, (itM kd nu gl rn n nv (sd, d, ht, pt, co, ro, wt) i).2.2.1, (itM kd nu gl rn n nv (sd, d, ht, pt, co, ro, wt) i).2.2.2.1, (itM kd nu gl rn n nv (sd, d, ht, pt, co, ro, wt) i).2.2.2.2.1, (itM kd nu gl rn n nv (sd, d, ht, pt, co, ro, wt) i).2.2.2.2.2.1, (itM kd nu gl rn n nv (sd, d, ht, pt, co, ro, wt) i).2.2.2.2.2.2)).2.2.1), .ref ap, .ref ac, .ref ar, .ref awt] := hc70_1
                have hf_ap : f70 ap = eI g 6 ((passM kd nu gl rn n nv ((itM kd nu gl rn n nv (sd, d, ht, pt, co, ro, wt) i).1, (itM kd nu gl rn n nv (sd, d, ht, pt, co, ro, wt) i).2.1, (itM kd nu gl rn n nv (sd, d, ht, pt, co, ro, wt) i).2.2.1, (itM kd nu gl rn n nv (sd, d, ht, pt, co, ro, wt) i).2.2.2.1, (itM kd nu gl rn n nv (sd, d, ht, pt, co, ro, wt) i).2.2.2.2.1, (itM kd nu gl rn n nv (sd, d, ht, pt, co, ro, wt) i).2.2.2.2.2.1, (itM kd nu gl rn n nv (sd, d, ht, pt, co, ro, wt) i).2.2.2.2.2.2)).2.2.2.1) := hc70_2
                have hf_ac : f70 ac = eI g 6 ((passM kd nu gl rn n nv ((itM kd nu gl rn n nv (sd, d, ht, pt, co, ro, wt) i).1, (itM kd nu gl rn n nv (sd, d, ht, pt, co, ro, wt) i).2.1, (itM kd nu gl rn n nv (sd, d, ht, pt, co, ro, wt) i).2.2.1, (itM kd nu gl rn n nv (sd, d, ht, pt, co, ro, wt) i).2.2.2.1, (itM kd nu gl rn n nv (sd, d, ht, pt, co, ro, wt) i).2.2.2.2.1, (itM kd nu gl rn n nv (sd, d, ht, pt, co, ro, wt) i).2.2.2.2.2.1, (itM kd nu gl rn n nv (sd, d, ht, pt, co, ro, wt) i).2.2.2.2.2.2)).2.2.2.2.1) := hc70_3
                have hf_ar : f70 ar = eI g 6 ((passM kd nu gl rn n nv ((itM kd nu gl rn n nv (sd, d, ht, pt, co, ro, wt) i).1, (itM kd nu gl rn n nv (sd, d, ht, pt, co, ro, wt) i).2.1, (itM kd nu gl rn n nv (sd, d, ht, pt, co, ro, wt) i).2.2.1, (itM kd nu gl rn n nv (sd, d, ht, pt, co, ro, wt) i).2.2.2.1, (itM kd nu gl rn n nv (sd, d, ht, pt, co, ro, wt) i).2.2.2.2.1, (itM kd nu gl rn n nv (sd, d, ht, pt, co, ro, wt) i).2.2.2.2.2.1, (itM kd nu gl rn n nv (sd, d, ht, pt, co, ro, wt) i).2.2.2.2.2.2)).2.2.2.2.2.1) := hc70_4
                have hf_awt : f70 awt = eI g 48 ((passM kd nu gl rn n nv ((itM kd nu gl rn n nv (sd, d, ht, pt, co, ro, wt) i).1, (itM kd nu gl rn n nv (sd, d, ht, pt, co, ro, wt) i).2.1, (itM kd nu gl rn n nv (sd, d, ht, pt, co, ro, wt) i).2.2.1, (itM kd nu gl rn n nv (sd, d, ht, pt, co, ro, wt) i).2.2.2.1, (itM kd nu gl rn n nv (sd, d, ht, pt, co, ro, wt) i).2.2.2.2.1, (itM kd nu gl rn n nv (sd, d, ht, pt, co, ro, wt) i).2.2.2.2.2.1, (itM kd nu gl rn n nv (sd, d, ht, pt, co, ro, wt) i).2.2.2.2.2.2)).2.2.2.2.2.2) := hc70_5
                replace hFr : Fr f f70 [mh, ms, ah, ap, ac, ar, awt] := hFr.tr hw70 (by simp)
                refine lv_iinc (v := nI (i + 1)) (lv' := [(3, .int (nI (i + 1))), (2, .int (nI w)), (1, .int (nI u)), (0, .ref mh)]) hx hb dX6_overtakes_73 hl (k := 0) rfl (nI_1 _) (by decide) rfl (fun ls hl => ?_)
                refine lv_goto (tgt := 45) hx hb dX6_overtakes_76 (by decide) ?_
                have hf_ms : f70 ms = eI g 8 ((itM kd nu gl rn n nv (sd, d, ht, pt, co, ro, wt) (i + 1)).1) := hf_ms
                have hf_ah : f70 ah = eO 6 [.int (nI ((itM kd nu gl rn n nv (sd, d, ht, pt, co, ro, wt) (i + 1)).2.1)), .int ((itM kd nu gl rn n nv (sd, d, ht, pt, co, ro, wt) (i + 1)).2.2.1), .ref ap, .ref ac, .ref ar, .ref awt] := hf_ah
                have hf_ap : f70 ap = eI g 6 ((itM kd nu gl rn n nv (sd, d, ht, pt, co, ro, wt) (i + 1)).2.2.2.1) := hf_ap
                have hf_ac : f70 ac = eI g 6 ((itM kd nu gl rn n nv (sd, d, ht, pt, co, ro, wt) (i + 1)).2.2.2.2.1) := hf_ac
                have hf_ar : f70 ar = eI g 6 ((itM kd nu gl rn n nv (sd, d, ht, pt, co, ro, wt) (i + 1)).2.2.2.2.2.1) := hf_ar
                have hf_awt : f70 awt = eI g 48 ((itM kd nu gl rn n nv (sd, d, ht, pt, co, ro, wt) (i + 1)).2.2.2.2.2.2) := hf_awt
                exact ih45 (i + 1) f70 H locs (by omega) (by omega) (fun j hj => (Nat.lt_or_ge j i).elim (ha j) (fun z => by rw [show j = i from (by omega)]; exact b2i_0.mp c60)) hf_ms hf_ah hf_ap hf_ac hf_ar hf_awt hf_mh hFr hP hS ls (lv_sub hl [0, 1, 2, 3] rfl)
              · skip
                refine lv_iload_n hx hb dX6_overtakes_63 rfl (lv_at hl 0 rfl) ?_
                exact hend (nI i) f45 _ _ _ _ (⟨Or.inr (Or.inr ⟨u, w, i, hu, rfl, hw, rfl, c29, Or.inl ⟨by omega, rfl, nz_t c60, ha⟩, hf_mh, hf_ms, hf_ah, hf_ap, hf_ac, hf_ar, hf_awt⟩), hFr⟩) hP hS rfl dX6_overtakes_64
        exact K45 _ 0 f39 _ _ (Nat.lt_succ_self _) (Nat.zero_le _) (fun j hj => absurd hj (Nat.not_lt_zero j)) hf_ms hf_ah hf_ap hf_ac hf_ar hf_awt hf_mh hFr hP hS ls (lv_sub hl [0, 3, 2, 1] rfl)
      · skip
        have c29 : u = w := (nI_eq (a := u) (b := w) (by omega) (by omega)).mp (show nI u = nI w from c29)
        refine lv_aload_n hx hb dX6_overtakes_32 rfl (lv_at hl 0 rfl) ?_
        refine lv_iconst (v := 2) hx hb dX6_overtakes_33 (by decide) ?_
        refine rw_V (As := [.int 2]) (rest := []) ⟨hx, hb, hml, hown, hts⟩ (m_X6_no l g L f2 _ hN _ _ _ _ _ _ _ _ _ _ _ _ hL_mh hf_mh) (cwV 1 hts gX6_overtakes_X6_no rfl rfl rfl (by decide +kernel) ⟨Nat.le_of_ble_eq_true rfl, Nat.le_of_ble_eq_true rfl⟩) hK hP hA hA2 hS hL_mh hf_mh rfl rfl hl.1 rfl (Nat.le_of_ble_eq_true rfl) dX6_overtakes_34 ⟨Nat.zero_le _, Nat.zero_le _⟩ (fun r34 f34 H locs hr34 hP hS => ?_)
        obtain ⟨hv34, hc34_0, hw34⟩ := hr34
        have hf_mg : f34 mg = eI g 12 gl := hw34.get hf_mg (nm_c n_mh_mg.symm (List.not_mem_nil))
        have hf_mr : f34 mr = eI g 12 rn := hw34.get hf_mr (nm_c n_mh_mr.symm (List.not_mem_nil))
        have hf_mk : f34 mk = eI g 8 kd := hw34.get hf_mk (nm_c n_mh_mk.symm (List.not_mem_nil))
        have hf_mn : f34 mn = eI g 8 nu := hw34.get hf_mn (nm_c n_mh_mn.symm (List.not_mem_nil))
        have hf_ms : f34 ms = eI g 8 sd := hw34.get hf_ms (nm_c n_mh_ms.symm (List.not_mem_nil))
        have hf_nw : f34 nw = eO 6 [.int (nI d), .int ht, .ref np, .ref nc, .ref nr, .ref nwt] := hw34.get hf_nw (nm_c n_mh_nw.symm (List.not_mem_nil))
        have hf_np : f34 np = eI g 6 pt := hw34.get hf_np (nm_c n_mh_np.symm (List.not_mem_nil))
        have hf_nc : f34 nc = eI g 6 co := hw34.get hf_nc (nm_c n_mh_nc.symm (List.not_mem_nil))
        have hf_nr : f34 nr = eI g 6 ro := hw34.get hf_nr (nm_c n_mh_nr.symm (List.not_mem_nil))
        have hf_nwt : f34 nwt = eI g 48 wt := hw34.get hf_nwt (nm_c n_mh_nwt.symm (List.not_mem_nil))
        have hf_ah : f34 ah = eO 6 [.int (nI d2), .int h2, .ref ap, .ref ac, .ref ar, .ref awt] := hw34.get hf_ah (nm_c n_mh_ah.symm (List.not_mem_nil))
        have hf_ap : f34 ap = eI g 6 pt2 := hw34.get hf_ap (nm_c n_mh_ap.symm (List.not_mem_nil))
        have hf_ac : f34 ac = eI g 6 co2 := hw34.get hf_ac (nm_c n_mh_ac.symm (List.not_mem_nil))
        have hf_ar : f34 ar = eI g 6 ro2 := hw34.get hf_ar (nm_c n_mh_ar.symm (List.not_mem_nil))
        have hf_awt : f34 awt = eI g 48 wt2 := hw34.get hf_awt (nm_c n_mh_awt.symm (List.not_mem_nil))
        have hf_mh : f34 mh = eO 7 [.int 2, .ref mg, .ref mr, .int (nI n), .ref mk, .ref mn, .int (nI nv), .ref ms, .ref nw, .ref ah] := hc34_0
        replace hFr : Fr f f34 [mh, ms, ah, ap, ac, ar, awt] := hFr.tr hw34 (by simp)
        subst hv34
        exact hend (0) f34 _ _ _ _ (⟨Or.inr (Or.inl ⟨by rw [inB_nI hu (by omega), inB_nI hw (by omega)]; rfl, by rw [c29], hf_mh, hf_ms, hf_ah, hf_ap, hf_ac, hf_ar, hf_awt⟩), hFr⟩) hP hS rfl dX6_overtakes_37
    · skip
      refine lv_aload_n hx hb dX6_overtakes_21 rfl (lv_at hl 0 rfl) ?_
      refine lv_iconst (v := 1) hx hb dX6_overtakes_22 (by decide) ?_
      refine rw_V (As := [.int 1]) (rest := []) ⟨hx, hb, hml, hown, hts⟩ (m_X6_no l g L f2 _ hN _ _ _ _ _ _ _ _ _ _ _ _ hL_mh hf_mh) (cwV 1 hts gX6_overtakes_X6_no rfl rfl rfl (by decide +kernel) ⟨Nat.le_of_ble_eq_true rfl, Nat.le_of_ble_eq_true rfl⟩) hK hP hA hA2 hS hL_mh hf_mh rfl rfl hl.1 rfl (Nat.le_of_ble_eq_true rfl) dX6_overtakes_23 ⟨Nat.zero_le _, Nat.zero_le _⟩ (fun r23 f23 H locs hr23 hP hS => ?_)
      obtain ⟨hv23, hc23_0, hw23⟩ := hr23
      have hf_mg : f23 mg = eI g 12 gl := hw23.get hf_mg (nm_c n_mh_mg.symm (List.not_mem_nil))
      have hf_mr : f23 mr = eI g 12 rn := hw23.get hf_mr (nm_c n_mh_mr.symm (List.not_mem_nil))
      have hf_mk : f23 mk = eI g 8 kd := hw23.get hf_mk (nm_c n_mh_mk.symm (List.not_mem_nil))
      have hf_mn : f23 mn = eI g 8 nu := hw23.get hf_mn (nm_c n_mh_mn.symm (List.not_mem_nil))
      have hf_ms : f23 ms = eI g 8 sd := hw23.get hf_ms (nm_c n_mh_ms.symm (List.not_mem_nil))
      have hf_nw : f23 nw = eO 6 [.int (nI d), .int ht, .ref np, .ref nc, .ref nr, .ref nwt] := hw23.get hf_nw (nm_c n_mh_nw.symm (List.not_mem_nil))
      have hf_np : f23 np = eI g 6 pt := hw23.get hf_np (nm_c n_mh_np.symm (List.not_mem_nil))
      have hf_nc : f23 nc = eI g 6 co := hw23.get hf_nc (nm_c n_mh_nc.symm (List.not_mem_nil))
      have hf_nr : f23 nr = eI g 6 ro := hw23.get hf_nr (nm_c n_mh_nr.symm (List.not_mem_nil))
      have hf_nwt : f23 nwt = eI g 48 wt := hw23.get hf_nwt (nm_c n_mh_nwt.symm (List.not_mem_nil))
      have hf_ah : f23 ah = eO 6 [.int (nI d2), .int h2, .ref ap, .ref ac, .ref ar, .ref awt] := hw23.get hf_ah (nm_c n_mh_ah.symm (List.not_mem_nil))
      have hf_ap : f23 ap = eI g 6 pt2 := hw23.get hf_ap (nm_c n_mh_ap.symm (List.not_mem_nil))
      have hf_ac : f23 ac = eI g 6 co2 := hw23.get hf_ac (nm_c n_mh_ac.symm (List.not_mem_nil))
      have hf_ar : f23 ar = eI g 6 ro2 := hw23.get hf_ar (nm_c n_mh_ar.symm (List.not_mem_nil))
      have hf_awt : f23 awt = eI g 48 wt2 := hw23.get hf_awt (nm_c n_mh_awt.symm (List.not_mem_nil))
      have hf_mh : f23 mh = eO 7 [.int 1, .ref mg, .ref mr, .int (nI n), .ref mk, .ref mn, .int (nI nv), .ref ms, .ref nw, .ref ah] := hc23_0
      replace hFr : Fr f f23 [mh, ms, ah, ap, ac, ar, awt] := hFr.tr hw23 (by simp)
      subst hv23
      exact hend (0) f23 _ _ _ _ (⟨Or.inl ⟨by rw [z_f c18, Bool.and_false], hf_mh, hf_ms, hf_ah, hf_ap, hf_ac, hf_ar, hf_awt⟩, hFr⟩) hP hS rfl dX6_overtakes_26
