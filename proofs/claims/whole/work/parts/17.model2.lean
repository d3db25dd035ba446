set_option maxHeartbeats 4000000 in
set_option maxRecDepth 100000 in
theorem m_X5_become (l : Launch) (g : GG) (L : List Nat) (f : Nat → va_E) (sz : Nat) (hN : L.Nodup) (oh op oc orr ow d : Nat) (ht : Int32) (pt co ro wt : Nat → Int32) (qh qp qc qr qw d2 : Nat) (h2 : Int32) (pt2 co2 ro2 wt2 : Nat → Int32) (hL_oh : oh ∈ L) (hf_oh : f oh = eO 6 [.int (nI d), .int ht, .ref op, .ref oc, .ref orr, .ref ow]) (hL_op : op ∈ L) (hf_op : f op = eI g 6 pt) (hL_oc : oc ∈ L) (hf_oc : f oc = eI g 6 co) (hL_orr : orr ∈ L) (hf_orr : f orr = eI g 6 ro) (hL_ow : ow ∈ L) (hf_ow : f ow = eI g 48 wt) (hL_qh : qh ∈ L) (hf_qh : f qh = eO 6 [.int (nI d2), .int h2, .ref qp, .ref qc, .ref qr, .ref qw]) (hL_qp : qp ∈ L) (hf_qp : f qp = eI g 6 pt2) (hL_qc : qc ∈ L) (hf_qc : f qc = eI g 6 co2) (hL_qr : qr ∈ L) (hf_qr : f qr = eI g 6 ro2) (hL_qw : qw ∈ L) (hf_qw : f qw = eI g 48 wt2) (n_oh_qh : oh ≠ qh) (n_op_oc : op ≠ oc) (n_op_orr : op ≠ orr) (n_oc_orr : oc ≠ orr) (n_ow_qw : ow ≠ qw) (n_op_qp : op ≠ qp) (n_op_qc : op ≠ qc) (n_op_qr : op ≠ qr) (n_oc_qp : oc ≠ qp) (n_oc_qc : oc ≠ qc) (n_oc_qr : oc ≠ qr) (n_orr_qp : orr ≠ qp) (n_orr_qc : orr ≠ qc) (n_orr_qr : orr ≠ qr) : RV l g yX5_become wsX5_become 2 47 L f sz [.ref oh, .ref qh] (fun f2 => f2 oh = eO 6 [.int (nI d2), .int h2, .ref op, .ref oc, .ref orr, .ref ow] ∧ f2 op = eI g 6 pt2 ∧ f2 oc = eI g 6 co2 ∧ f2 orr = eI g 6 ro2 ∧ f2 ow = eI g 48 wt2 ∧ Fr f f2 [oh, op, oc, orr, ow]) := by
  refine RV.start (cc := cX5_become) (maxL := 2) (by decide +kernel) rfl (by simp [lg_sl, Value.category]) ?_
  intro p e s m args below meth c Q ls A hx hb hml hts hown hA hA2 hS hP hK hl hend
  have hl : lv_has ls 2 [(0, .ref oh), (1, .ref qh)] := hl
  have hi_X5 : ∀ w ∈ u_ws RX5 TX5 6, w ∈ wsX5_become := by decide +kernel
  have hFr : Fr f f [oh, op, oc, orr, ow] := Fr.rf
  have n_oh_op : oh ≠ op := ne_e hf_oh hf_op (by simp)
  have n_oh_oc : oh ≠ oc := ne_e hf_oh hf_oc (by simp)
  have n_oh_orr : oh ≠ orr := ne_e hf_oh hf_orr (by simp)
  have n_oh_ow : oh ≠ ow := ne_e hf_oh hf_ow (by simp)
  have n_oh_qp : oh ≠ qp := ne_e hf_oh hf_qp (by simp)
  have n_oh_qc : oh ≠ qc := ne_e hf_oh hf_qc (by simp)
  have n_oh_qr : oh ≠ qr := ne_e hf_oh hf_qr (by simp)
  have n_oh_qw : oh ≠ qw := ne_e hf_oh hf_qw (by simp)
  have n_op_ow : op ≠ ow := ne_e hf_op hf_ow (by simp)
  have n_op_qh : op ≠ qh := ne_e hf_op hf_qh (by simp)
  have n_op_qw : op ≠ qw := ne_e hf_op hf_qw (by simp)
  have n_oc_ow : oc ≠ ow := ne_e hf_oc hf_ow (by simp)
  have n_oc_qh : oc ≠ qh := ne_e hf_oc hf_qh (by simp)
  have n_oc_qw : oc ≠ qw := ne_e hf_oc hf_qw (by simp)
  have n_orr_ow : orr ≠ ow := ne_e hf_orr hf_ow (by simp)
  have n_orr_qh : orr ≠ qh := ne_e hf_orr hf_qh (by simp)
  have n_orr_qw : orr ≠ qw := ne_e hf_orr hf_qw (by simp)
  have n_ow_qh : ow ≠ qh := ne_e hf_ow hf_qh (by simp)
  have n_ow_qp : ow ≠ qp := ne_e hf_ow hf_qp (by simp)
  have n_ow_qc : ow ≠ qc := ne_e hf_ow hf_qc (by simp)
  have n_ow_qr : ow ≠ qr := ne_e hf_ow hf_qr (by simp)
  have n_qh_qp : qh ≠ qp := ne_e hf_qh hf_qp (by simp)
  have n_qh_qc : qh ≠ qc := ne_e hf_qh hf_qc (by simp)
  have n_qh_qr : qh ≠ qr := ne_e hf_qh hf_qr (by simp)
  have n_qh_qw : qh ≠ qw := ne_e hf_qh hf_qw (by simp)
  have n_qp_qw : qp ≠ qw := ne_e hf_qp hf_qw (by simp)
  have n_qc_qw : qc ≠ qw := ne_e hf_qc hf_qw (by simp)
  have n_qr_qw : qr ≠ qw := ne_e hf_qr hf_qw (by simp)
  have h0f_oh := hf_oh
  have h0f_op := hf_op
  have h0f_oc := hf_oc
  have h0f_orr := hf_orr
  have h0f_ow := hf_ow
  have h0f_qh := hf_qh
  have h0f_qp := hf_qp
  have h0f_qc := hf_qc
  have h0f_qr := hf_qr
  have h0f_qw := hf_qw
  refine lv_aload_n hx hb dX5_become_0 rfl (lv_at hl 0 rfl) ?_
  refine lv_aload_n hx hb dX5_become_1 rfl (lv_at hl 1 rfl) ?_
  refine pg_get (C := RX5) (T := TX5) (N := 6) hx hb hts hi_X5 hown hK hP hL_qh hf_qh rfl 0 (by decide) (hts (.fieldLink RX5 30 "BarometerLeagueModel$State" "day" "I") (by decide +kernel)) (fun _ h9 => h9) rfl dX5_become_2 ?_
  refine pg_put (ty := .int) (C := RX5) (T := TX5) (N := 6) hx hb hts hi_X5 tyX5 tyX5_ok nmX5 hown hK hP hN hA hS hL_oh hf_oh rfl 0 (by decide) (hts (.fieldLink RX5 30 "BarometerLeagueModel$State" "day" "I") (by decide +kernel)) (fun _ h9 => h9) rfl (by decide +kernel) rfl rfl (Nat.le_of_ble_eq_true rfl) dX5_become_5 (fun H locs hP hS => ?_)
  obtain ⟨f5, ef5⟩ : ∃ z, z = va_up f oh (eO 6 [.int (nI d2), .int ht, .ref op, .ref oc, .ref orr, .ref ow]) := ⟨_, rfl⟩
  replace hP : PP g L f5 H := by rw [ef5]; exact hP
  have hf_op : f5 op = eI g 6 pt := by rw [ef5, va_up_ne _ _ n_oh_op.symm]; exact hf_op
  have hf_oc : f5 oc = eI g 6 co := by rw [ef5, va_up_ne _ _ n_oh_oc.symm]; exact hf_oc
  have hf_orr : f5 orr = eI g 6 ro := by rw [ef5, va_up_ne _ _ n_oh_orr.symm]; exact hf_orr
  have hf_ow : f5 ow = eI g 48 wt := by rw [ef5, va_up_ne _ _ n_oh_ow.symm]; exact hf_ow
  have hf_qh : f5 qh = eO 6 [.int (nI d2), .int h2, .ref qp, .ref qc, .ref qr, .ref qw] := by rw [ef5, va_up_ne _ _ n_oh_qh.symm]; exact hf_qh
  have hf_qp : f5 qp = eI g 6 pt2 := by rw [ef5, va_up_ne _ _ n_oh_qp.symm]; exact hf_qp
  have hf_qc : f5 qc = eI g 6 co2 := by rw [ef5, va_up_ne _ _ n_oh_qc.symm]; exact hf_qc
  have hf_qr : f5 qr = eI g 6 ro2 := by rw [ef5, va_up_ne _ _ n_oh_qr.symm]; exact hf_qr
  have hf_qw : f5 qw = eI g 48 wt2 := by rw [ef5, va_up_ne _ _ n_oh_qw.symm]; exact hf_qw
  have hf_oh : f5 oh = eO 6 [.int (nI d2), .int ht, .ref op, .ref oc, .ref orr, .ref ow] := by rw [ef5]; exact va_up_self _ _ _
  replace hFr : Fr f f5 [oh, op, oc, orr, ow] := by rw [ef5]; exact hFr.up (by simp)
  refine lv_aload_n hx hb dX5_become_8 rfl (lv_at hl 0 rfl) ?_
  refine lv_aload_n hx hb dX5_become_9 rfl (lv_at hl 1 rfl) ?_
  refine pg_get (C := RX5) (T := TX5) (N := 6) hx hb hts hi_X5 hown hK hP hL_qh hf_qh rfl 1 (by decide) (hts (.fieldLink RX5 34 "BarometerLeagueModel$State" "hits" "I") (by decide +kernel)) (fun _ h9 => h9) rfl dX5_become_10 ?_
  refine pg_put (ty := .int) (C := RX5) (T := TX5) (N := 6) hx hb hts hi_X5 tyX5 tyX5_ok nmX5 hown hK hP hN hA hS hL_oh hf_oh rfl 1 (by decide) (hts (.fieldLink RX5 34 "BarometerLeagueModel$State" "hits" "I") (by decide +kernel)) (fun _ h9 => h9) rfl (by decide +kernel) rfl rfl (Nat.le_of_ble_eq_true rfl) dX5_become_13 (fun H locs hP hS => ?_)
  obtain ⟨f13, ef13⟩ : ∃ z, z = va_up f5 oh (eO 6 [.int (nI d2), .int h2, .ref op, .ref oc, .ref orr, .ref ow]) := ⟨_, rfl⟩
  replace hP : PP g L f13 H := by rw [ef13]; exact hP
  have hf_op : f13 op = eI g 6 pt := by rw [ef13, va_up_ne _ _ n_oh_op.symm]; exact hf_op
  have hf_oc : f13 oc = eI g 6 co := by rw [ef13, va_up_ne _ _ n_oh_oc.symm]; exact hf_oc
  have hf_orr : f13 orr = eI g 6 ro := by rw [ef13, va_up_ne _ _ n_oh_orr.symm]; exact hf_orr
  have hf_ow : f13 ow = eI g 48 wt := by rw [ef13, va_up_ne _ _ n_oh_ow.symm]; exact hf_ow
  have hf_qh : f13 qh = eO 6 [.int (nI d2), .int h2, .ref qp, .ref qc, .ref qr, .ref qw] := by rw [ef13, va_up_ne _ _ n_oh_qh.symm]; exact hf_qh
  have hf_qp : f13 qp = eI g 6 pt2 := by rw [ef13, va_up_ne _ _ n_oh_qp.symm]; exact hf_qp
  have hf_qc : f13 qc = eI g 6 co2 := by rw [ef13, va_up_ne _ _ n_oh_qc.symm]; exact hf_qc
  have hf_qr : f13 qr = eI g 6 ro2 := by rw [ef13, va_up_ne _ _ n_oh_qr.symm]; exact hf_qr
  have hf_qw : f13 qw = eI g 48 wt2 := by rw [ef13, va_up_ne _ _ n_oh_qw.symm]; exact hf_qw
  have hf_oh : f13 oh = eO 6 [.int (nI d2), .int h2, .ref op, .ref oc, .ref orr, .ref ow] := by rw [ef13]; exact va_up_self _ _ _
  replace hFr : Fr f f13 [oh, op, oc, orr, ow] := by rw [ef13]; exact hFr.up (by simp)
  refine lv_aload_n hx hb dX5_become_16 rfl (lv_at hl 1 rfl) ?_
  refine pg_get (C := RX5) (T := TX5) (N := 6) hx hb hts hi_X5 hown hK hP hL_qh hf_qh rfl 2 (by decide) (hts (.fieldLink RX5 9 "BarometerLeagueModel$State" "points" "[I") (by decide +kernel)) (fun _ h9 => h9) rfl dX5_become_17 ?_
  refine lv_aload_n hx hb dX5_become_20 rfl (lv_at hl 0 rfl) ?_
  refine pg_get (C := RX5) (T := TX5) (N := 6) hx hb hts hi_X5 hown hK hP hL_oh hf_oh rfl 2 (by decide) (hts (.fieldLink RX5 9 "BarometerLeagueModel$State" "points" "[I") (by decide +kernel)) (fun _ h9 => h9) rfl dX5_become_21 ?_
  refine rv_S (As := [.ref qp, .ref op]) (rest := []) ⟨hx, hb, hml, hown, hts⟩ (m_X5_copy l g L f13 _ hN _ _ _ _ _ hL_qp hf_qp hL_op hf_op n_op_qp.symm (by omega)) (va_cwS 2 hts gX5_become_X5_copy rfl rfl rfl (by decide +kernel) ⟨Nat.le_of_ble_eq_true rfl, Nat.le_of_ble_eq_true rfl⟩) hK hP hA hA2 hS rfl hl.1 rfl (Nat.le_of_ble_eq_true rfl) dX5_become_24 ⟨Nat.zero_le _, Nat.zero_le _⟩ (fun f24 H locs hr24 hP hS => ?_)
  obtain ⟨hc24_0, hw24⟩ := hr24
  have hf_oh : f24 oh = eO 6 [.int (nI d2), .int h2, .ref op, .ref oc, .ref orr, .ref ow] := hw24.get hf_oh (nm_c n_oh_op (List.not_mem_nil))
  have hf_oc : f24 oc = eI g 6 co := hw24.get hf_oc (nm_c n_op_oc.symm (List.not_mem_nil))
  have hf_orr : f24 orr = eI g 6 ro := hw24.get hf_orr (nm_c n_op_orr.symm (List.not_mem_nil))
  have hf_ow : f24 ow = eI g 48 wt := hw24.get hf_ow (nm_c n_op_ow.symm (List.not_mem_nil))
  have hf_qh : f24 qh = eO 6 [.int (nI d2), .int h2, .ref qp, .ref qc, .ref qr, .ref qw] := hw24.get hf_qh (nm_c n_op_qh.symm (List.not_mem_nil))
  have hf_qp : f24 qp = eI g 6 pt2 := hw24.get hf_qp (nm_c n_op_qp.symm (List.not_mem_nil))
  have hf_qc : f24 qc = eI g 6 co2 := hw24.get hf_qc (nm_c n_op_qc.symm (List.not_mem_nil))
  have hf_qr : f24 qr = eI g 6 ro2 := hw24.get hf_qr (nm_c n_op_qr.symm (List.not_mem_nil))
  have hf_qw : f24 qw = eI g 48 wt2 := hw24.get hf_qw (nm_c n_op_qw.symm (List.not_mem_nil))
  have hf_op : f24 op = eI g 6 pt2 := hc24_0
  replace hFr : Fr f f24 [oh, op, oc, orr, ow] := hFr.tr hw24 (by simp)
  refine lv_aload_n hx hb dX5_become_27 rfl (lv_at hl 1 rfl) ?_
  refine pg_get (C := RX5) (T := TX5) (N := 6) hx hb hts hi_X5 hown hK hP hL_qh hf_qh rfl 3 (by decide) (hts (.fieldLink RX5 15 "BarometerLeagueModel$State" "coins" "[I") (by decide +kernel)) (fun _ h9 => h9) rfl dX5_become_28 ?_
  refine lv_aload_n hx hb dX5_become_31 rfl (lv_at hl 0 rfl) ?_
  refine pg_get (C := RX5) (T := TX5) (N := 6) hx hb hts hi_X5 hown hK hP hL_oh hf_oh rfl 3 (by decide) (hts (.fieldLink RX5 15 "BarometerLeagueModel$State" "coins" "[I") (by decide +kernel)) (fun _ h9 => h9) rfl dX5_become_32 ?_
  refine rv_S (As := [.ref qc, .ref oc]) (rest := []) ⟨hx, hb, hml, hown, hts⟩ (m_X5_copy l g L f24 _ hN _ _ _ _ _ hL_qc hf_qc hL_oc hf_oc n_oc_qc.symm (by omega)) (va_cwS 2 hts gX5_become_X5_copy rfl rfl rfl (by decide +kernel) ⟨Nat.le_of_ble_eq_true rfl, Nat.le_of_ble_eq_true rfl⟩) hK hP hA hA2 hS rfl hl.1 rfl (Nat.le_of_ble_eq_true rfl) dX5_become_35 ⟨Nat.zero_le _, Nat.zero_le _⟩ (fun f35 H locs hr35 hP hS => ?_)
  obtain ⟨hc35_0, hw35⟩ := hr35
  have hf_oh : f35 oh = eO 6 [.int (nI d2), .int h2, .ref op, .ref oc, .ref orr, .ref ow] := hw35.get hf_oh (nm_c n_oh_oc (List.not_mem_nil))
  have hf_op : f35 op = eI g 6 pt2 := hw35.get hf_op (nm_c n_op_oc (List.not_mem_nil))
  have hf_orr : f35 orr = eI g 6 ro := hw35.get hf_orr (nm_c n_oc_orr.symm (List.not_mem_nil))
  have hf_ow : f35 ow = eI g 48 wt := hw35.get hf_ow (nm_c n_oc_ow.symm (List.not_mem_nil))
  have hf_qh : f35 qh = eO 6 [.int (nI d2), .int h2, .ref qp, .ref qc, .ref qr, .ref qw] := hw35.get hf_qh (nm_c n_oc_qh.symm (List.not_mem_nil))
  have hf_qp : f35 qp = eI g 6 pt2 := hw35.get hf_qp (nm_c n_oc_qp.symm (List.not_mem_nil))
  have hf_qc : f35 qc = eI g 6 co2 := hw35.get hf_qc (nm_c n_oc_qc.symm (List.not_mem_nil))
  have hf_qr : f35 qr = eI g 6 ro2 := hw35.get hf_qr (nm_c n_oc_qr.symm (List.not_mem_nil))
  have hf_qw : f35 qw = eI g 48 wt2 := hw35.get hf_qw (nm_c n_oc_qw.symm (List.not_mem_nil))
  have hf_oc : f35 oc = eI g 6 co2 := hc35_0
  replace hFr : Fr f f35 [oh, op, oc, orr, ow] := hFr.tr hw35 (by simp)
  refine lv_aload_n hx hb dX5_become_38 rfl (lv_at hl 1 rfl) ?_
  refine pg_get (C := RX5) (T := TX5) (N := 6) hx hb hts hi_X5 hown hK hP hL_qh hf_qh rfl 4 (by decide) (hts (.fieldLink RX5 18 "BarometerLeagueModel$State" "row" "[I") (by decide +kernel)) (fun _ h9 => h9) rfl dX5_become_39 ?_
  refine lv_aload_n hx hb dX5_become_42 rfl (lv_at hl 0 rfl) ?_
  refine pg_get (C := RX5) (T := TX5) (N := 6) hx hb hts hi_X5 hown hK hP hL_oh hf_oh rfl 4 (by decide) (hts (.fieldLink RX5 18 "BarometerLeagueModel$State" "row" "[I") (by decide +kernel)) (fun _ h9 => h9) rfl dX5_become_43 ?_
  refine rv_S (As := [.ref qr, .ref orr]) (rest := []) ⟨hx, hb, hml, hown, hts⟩ (m_X5_copy l g L f35 _ hN _ _ _ _ _ hL_qr hf_qr hL_orr hf_orr n_orr_qr.symm (by omega)) (va_cwS 2 hts gX5_become_X5_copy rfl rfl rfl (by decide +kernel) ⟨Nat.le_of_ble_eq_true rfl, Nat.le_of_ble_eq_true rfl⟩) hK hP hA hA2 hS rfl hl.1 rfl (Nat.le_of_ble_eq_true rfl) dX5_become_46 ⟨Nat.zero_le _, Nat.zero_le _⟩ (fun f46 H locs hr46 hP hS => ?_)
  obtain ⟨hc46_0, hw46⟩ := hr46
  have hf_oh : f46 oh = eO 6 [.int (nI d2), .int h2, .ref op, .ref oc, .ref orr, .ref ow] := hw46.get hf_oh (nm_c n_oh_orr (List.not_mem_nil))
  have hf_op : f46 op = eI g 6 pt2 := hw46.get hf_op (nm_c n_op_orr (List.not_mem_nil))
  have hf_oc : f46 oc = eI g 6 co2 := hw46.get hf_oc (nm_c n_oc_orr (List.not_mem_nil))
  have hf_ow : f46 ow = eI g 48 wt := hw46.get hf_ow (nm_c n_orr_ow.symm (List.not_mem_nil))
  have hf_qh : f46 qh = eO 6 [.int (nI d2), .int h2, .ref qp, .ref qc, .ref qr, .ref qw] := hw46.get hf_qh (nm_c n_orr_qh.symm (List.not_mem_nil))
  have hf_qp : f46 qp = eI g 6 pt2 := hw46.get hf_qp (nm_c n_orr_qp.symm (List.not_mem_nil))
  have hf_qc : f46 qc = eI g 6 co2 := hw46.get hf_qc (nm_c n_orr_qc.symm (List.not_mem_nil))
  have hf_qr : f46 qr = eI g 6 ro2 := hw46.get hf_qr (nm_c n_orr_qr.symm (List.not_mem_nil))
  have hf_qw : f46 qw = eI g 48 wt2 := hw46.get hf_qw (nm_c n_orr_qw.symm (List.not_mem_nil))
  have hf_orr : f46 orr = eI g 6 ro2 := hc46_0
  replace hFr : Fr f f46 [oh, op, oc, orr, ow] := hFr.tr hw46 (by simp)
  refine lv_aload_n hx hb dX5_become_49 rfl (lv_at hl 1 rfl) ?_
  refine pg_get (C := RX5) (T := TX5) (N := 6) hx hb hts hi_X5 hown hK hP hL_qh hf_qh rfl 5 (by decide) (hts (.fieldLink RX5 21 "BarometerLeagueModel$State" "weight" "[I") (by decide +kernel)) (fun _ h9 => h9) rfl dX5_become_50 ?_
  refine lv_aload_n hx hb dX5_become_53 rfl (lv_at hl 0 rfl) ?_
  refine pg_get (C := RX5) (T := TX5) (N := 6) hx hb hts hi_X5 hown hK hP hL_oh hf_oh rfl 5 (by decide) (hts (.fieldLink RX5 21 "BarometerLeagueModel$State" "weight" "[I") (by decide +kernel)) (fun _ h9 => h9) rfl dX5_become_54 ?_
  refine rv_S (As := [.ref qw, .ref ow]) (rest := []) ⟨hx, hb, hml, hown, hts⟩ (m_X5_copy l g L f46 _ hN _ _ _ _ _ hL_qw hf_qw hL_ow hf_ow n_ow_qw.symm (by omega)) (va_cwS 2 hts gX5_become_X5_copy rfl rfl rfl (by decide +kernel) ⟨Nat.le_of_ble_eq_true rfl, Nat.le_of_ble_eq_true rfl⟩) hK hP hA hA2 hS rfl hl.1 rfl (Nat.le_of_ble_eq_true rfl) dX5_become_57 ⟨Nat.zero_le _, Nat.zero_le _⟩ (fun f57 H locs hr57 hP hS => ?_)
  obtain ⟨hc57_0, hw57⟩ := hr57
  have hf_oh : f57 oh = eO 6 [.int (nI d2), .int h2, .ref op, .ref oc, .ref orr, .ref ow] := hw57.get hf_oh (nm_c n_oh_ow (List.not_mem_nil))
  have hf_op : f57 op = eI g 6 pt2 := hw57.get hf_op (nm_c n_op_ow (List.not_mem_nil))
  have hf_oc : f57 oc = eI g 6 co2 := hw57.get hf_oc (nm_c n_oc_ow (List.not_mem_nil))
  have hf_orr : f57 orr = eI g 6 ro2 := hw57.get hf_orr (nm_c n_orr_ow (List.not_mem_nil))
  have hf_qh : f57 qh = eO 6 [.int (nI d2), .int h2, .ref qp, .ref qc, .ref qr, .ref qw] := hw57.get hf_qh (nm_c n_ow_qh.symm (List.not_mem_nil))
  have hf_qp : f57 qp = eI g 6 pt2 := hw57.get hf_qp (nm_c n_ow_qp.symm (List.not_mem_nil))
  have hf_qc : f57 qc = eI g 6 co2 := hw57.get hf_qc (nm_c n_ow_qc.symm (List.not_mem_nil))
  have hf_qr : f57 qr = eI g 6 ro2 := hw57.get hf_qr (nm_c n_ow_qr.symm (List.not_mem_nil))
  have hf_qw : f57 qw = eI g 48 wt2 := hw57.get hf_qw (nm_c n_ow_qw.symm (List.not_mem_nil))
  have hf_ow : f57 ow = eI g 48 wt2 := hc57_0
  replace hFr : Fr f f57 [oh, op, oc, orr, ow] := hFr.tr hw57 (by simp)
  exact hend f57 _ _ _ _ (⟨hf_oh, hf_op, hf_oc, hf_orr, hf_ow, hFr⟩) hP hS dX5_become_60

set_option maxHeartbeats 4000000 in
set_option maxRecDepth 100000 in
theorem m_X6_lookAhead (l : Launch) (g : GG) (L : List Nat) (f : Nat → va_E) (sz : Nat) (hN : L.Nodup) (mh mg mr mk mn ms n nv : Nat) (th : Int32) (nw np nc nr nwt d : Nat) (ht : Int32) (pt co ro wt : Nat → Int32) (ah ap ac ar awt d2 : Nat) (h2 : Int32) (pt2 co2 ro2 wt2 : Nat → Int32) (hL_mh : mh ∈ L) (hf_mh : f mh = eO 7 [.int th, .ref mg, .ref mr, .int (nI n), .ref mk, .ref mn, .int (nI nv), .ref ms, .ref nw, .ref ah]) (hL_nw : nw ∈ L) (hf_nw : f nw = eO 6 [.int (nI d), .int ht, .ref np, .ref nc, .ref nr, .ref nwt]) (hL_np : np ∈ L) (hf_np : f np = eI g 6 pt) (hL_nc : nc ∈ L) (hf_nc : f nc = eI g 6 co) (hL_nr : nr ∈ L) (hf_nr : f nr = eI g 6 ro) (hL_nwt : nwt ∈ L) (hf_nwt : f nwt = eI g 48 wt) (hL_ah : ah ∈ L) (hf_ah : f ah = eO 6 [.int (nI d2), .int h2, .ref ap, .ref ac, .ref ar, .ref awt]) (hL_ap : ap ∈ L) (hf_ap : f ap = eI g 6 pt2) (hL_ac : ac ∈ L) (hf_ac : f ac = eI g 6 co2) (hL_ar : ar ∈ L) (hf_ar : f ar = eI g 6 ro2) (hL_awt : awt ∈ L) (hf_awt : f awt = eI g 48 wt2) (n_ah_nw : ah ≠ nw) (n_ap_ac : ap ≠ ac) (n_ap_ar : ap ≠ ar) (n_ac_ar : ac ≠ ar) (n_awt_nwt : awt ≠ nwt) (n_ap_np : ap ≠ np) (n_ap_nc : ap ≠ nc) (n_ap_nr : ap ≠ nr) (n_ac_np : ac ≠ np) (n_ac_nc : ac ≠ nc) (n_ac_nr : ac ≠ nr) (n_ar_np : ar ≠ np) (n_ar_nc : ar ≠ nc) (n_ar_nr : ar ≠ nr) : RF l g yX6_lookAhead wsX6_lookAhead 3 68 L f sz [.ref mh] ah (fun f2 => f2 ah = eO 6 [.int (nI d), .int ht, .ref ap, .ref ac, .ref ar, .ref awt] ∧ f2 ap = eI g 6 pt ∧ f2 ac = eI g 6 co ∧ f2 ar = eI g 6 ro ∧ f2 awt = eI g 48 wt ∧ Fr f f2 [ah, ap, ac, ar, awt]) := by
  refine RF.start (cc := cX6_lookAhead) (maxL := 1) (ret := (.object "BarometerLeagueModel$State")) (by decide +kernel) rfl (by simp [lg_sl, Value.category]) (Or.inl ⟨_, rfl⟩) ?_
  intro p e s m args below meth c Q ls A hx hb hml hts hown hA hA2 hS hP hK hl hend
  have hl : lv_has ls 1 [(0, .ref mh)] := hl
  have hi_X6 : ∀ w ∈ u_ws RX6 TX6 10, w ∈ wsX6_lookAhead := by decide +kernel
  have hFr : Fr f f [ah, ap, ac, ar, awt] := Fr.rf
  have n_mh_nw : mh ≠ nw := ne_e hf_mh hf_nw (by simp)
  have n_mh_np : mh ≠ np := ne_e hf_mh hf_np (by simp)
  have n_mh_nc : mh ≠ nc := ne_e hf_mh hf_nc (by simp)
  have n_mh_nr : mh ≠ nr := ne_e hf_mh hf_nr (by simp)
  have n_mh_nwt : mh ≠ nwt := ne_e hf_mh hf_nwt (by simp)
  have n_mh_ah : mh ≠ ah := ne_e hf_mh hf_ah (by simp)
  have n_mh_ap : mh ≠ ap := ne_e hf_mh hf_ap (by simp)
  have n_mh_ac : mh ≠ ac := ne_e hf_mh hf_ac (by simp)
  have n_mh_ar : mh ≠ ar := ne_e hf_mh hf_ar (by simp)
  have n_mh_awt : mh ≠ awt := ne_e hf_mh hf_awt (by simp)
  have n_nw_np : nw ≠ np := ne_e hf_nw hf_np (by simp)
  have n_nw_nc : nw ≠ nc := ne_e hf_nw hf_nc (by simp)
  have n_nw_nr : nw ≠ nr := ne_e hf_nw hf_nr (by simp)
  have n_nw_nwt : nw ≠ nwt := ne_e hf_nw hf_nwt (by simp)
  have n_nw_ap : nw ≠ ap := ne_e hf_nw hf_ap (by simp)
  have n_nw_ac : nw ≠ ac := ne_e hf_nw hf_ac (by simp)
  have n_nw_ar : nw ≠ ar := ne_e hf_nw hf_ar (by simp)
  have n_nw_awt : nw ≠ awt := ne_e hf_nw hf_awt (by simp)
  have n_np_nwt : np ≠ nwt := ne_e hf_np hf_nwt (by simp)
  have n_np_ah : np ≠ ah := ne_e hf_np hf_ah (by simp)
  have n_np_awt : np ≠ awt := ne_e hf_np hf_awt (by simp)
  have n_nc_nwt : nc ≠ nwt := ne_e hf_nc hf_nwt (by simp)
  have n_nc_ah : nc ≠ ah := ne_e hf_nc hf_ah (by simp)
  have n_nc_awt : nc ≠ awt := ne_e hf_nc hf_awt (by simp)
  have n_nr_nwt : nr ≠ nwt := ne_e hf_nr hf_nwt (by simp)
  have n_nr_ah : nr ≠ ah := ne_e hf_nr hf_ah (by simp)
  have n_nr_awt : nr ≠ awt := ne_e hf_nr hf_awt (by simp)
  have n_nwt_ah : nwt ≠ ah := ne_e hf_nwt hf_ah (by simp)
  have n_nwt_ap : nwt ≠ ap := ne_e hf_nwt hf_ap (by simp)
  have n_nwt_ac : nwt ≠ ac := ne_e hf_nwt hf_ac (by simp)
  have n_nwt_ar : nwt ≠ ar := ne_e hf_nwt hf_ar (by simp)
  have n_ah_ap : ah ≠ ap := ne_e hf_ah hf_ap (by simp)
  have n_ah_ac : ah ≠ ac := ne_e hf_ah hf_ac (by simp)
  have n_ah_ar : ah ≠ ar := ne_e hf_ah hf_ar (by simp)
  have n_ah_awt : ah ≠ awt := ne_e hf_ah hf_awt (by simp)
  have n_ap_awt : ap ≠ awt := ne_e hf_ap hf_awt (by simp)
  have n_ac_awt : ac ≠ awt := ne_e hf_ac hf_awt (by simp)
  have n_ar_awt : ar ≠ awt := ne_e hf_ar hf_awt (by simp)
  have h0f_mh := hf_mh
  have h0f_nw := hf_nw
  have h0f_np := hf_np
  have h0f_nc := hf_nc
  have h0f_nr := hf_nr
  have h0f_nwt := hf_nwt
  have h0f_ah := hf_ah
  have h0f_ap := hf_ap
  have h0f_ac := hf_ac
  have h0f_ar := hf_ar
  have h0f_awt := hf_awt
  refine lv_aload_n hx hb dX6_lookAhead_0 rfl (lv_at hl 0 rfl) ?_
  refine pg_get (C := RX6) (T := TX6) (N := 10) hx hb hts hi_X6 hown hK hP hL_mh hf_mh rfl 9 (by decide) (hts (.fieldLink RX6 32 "BarometerLeagueModel" "ahead" "LBarometerLeagueModel$State;") (by decide +kernel)) (fun _ h9 => h9) rfl dX6_lookAhead_1 ?_
  refine lv_aload_n hx hb dX6_lookAhead_4 rfl (lv_at hl 0 rfl) ?_
  refine pg_get (C := RX6) (T := TX6) (N := 10) hx hb hts hi_X6 hown hK hP hL_mh hf_mh rfl 8 (by decide) (hts (.fieldLink RX6 28 "BarometerLeagueModel" "now" "LBarometerLeagueModel$State;") (by decide +kernel)) (fun _ h9 => h9) rfl dX6_lookAhead_5 ?_
  refine rv_V (As := [.ref nw]) (rest := []) ⟨hx, hb, hml, hown, hts⟩ (m_X5_become l g L f _ hN _ _ _ _ _ _ _ _ _ _ _ _ _ _ _ _ _ _ _ _ _ _ hL_ah hf_ah hL_ap hf_ap hL_ac hf_ac hL_ar hf_ar hL_awt hf_awt hL_nw hf_nw hL_np hf_np hL_nc hf_nc hL_nr hf_nr hL_nwt hf_nwt n_ah_nw n_ap_ac n_ap_ar n_ac_ar n_awt_nwt n_ap_np n_ap_nc n_ap_nr n_ac_np n_ac_nc n_ac_nr n_ar_np n_ar_nc n_ar_nr) (cwV 1 hts gX6_lookAhead_X5_become rfl rfl rfl (by decide +kernel) ⟨Nat.le_of_ble_eq_true rfl, Nat.le_of_ble_eq_true rfl⟩) hK hP hA hA2 hS hL_ah hf_ah rfl rfl hl.1 rfl (Nat.le_of_ble_eq_true rfl) dX6_lookAhead_8 ⟨Nat.zero_le _, Nat.zero_le _⟩ (fun f8 H locs hr8 hP hS => ?_)
  obtain ⟨hc8_0, hc8_1, hc8_2, hc8_3, hc8_4, hw8⟩ := hr8
  have hf_mh : f8 mh = eO 7 [.int th, .ref mg, .ref mr, .int (nI n), .ref mk, .ref mn, .int (nI nv), .ref ms, .ref nw, .ref ah] := hw8.get hf_mh (nm_c n_mh_ah (nm_c n_mh_ap (nm_c n_mh_ac (nm_c n_mh_ar (nm_c n_mh_awt (List.not_mem_nil))))))
  have hf_nw : f8 nw = eO 6 [.int (nI d), .int ht, .ref np, .ref nc, .ref nr, .ref nwt] := hw8.get hf_nw (nm_c n_ah_nw.symm (nm_c n_nw_ap (nm_c n_nw_ac (nm_c n_nw_ar (nm_c n_nw_awt (List.not_mem_nil))))))
  have hf_np : f8 np = eI g 6 pt := hw8.get hf_np (nm_c n_np_ah (nm_c n_ap_np.symm (nm_c n_ac_np.symm (nm_c n_ar_np.symm (nm_c n_np_awt (List.not_mem_nil))))))
  have hf_nc : f8 nc = eI g 6 co := hw8.get hf_nc (nm_c n_nc_ah (nm_c n_ap_nc.symm (nm_c n_ac_nc.symm (nm_c n_ar_nc.symm (nm_c n_nc_awt (List.not_mem_nil))))))
  have hf_nr : f8 nr = eI g 6 ro := hw8.get hf_nr (nm_c n_nr_ah (nm_c n_ap_nr.symm (nm_c n_ac_nr.symm (nm_c n_ar_nr.symm (nm_c n_nr_awt (List.not_mem_nil))))))
  have hf_nwt : f8 nwt = eI g 48 wt := hw8.get hf_nwt (nm_c n_nwt_ah (nm_c n_nwt_ap (nm_c n_nwt_ac (nm_c n_nwt_ar (nm_c n_awt_nwt.symm (List.not_mem_nil))))))
  have hf_ah : f8 ah = eO 6 [.int (nI d), .int ht, .ref ap, .ref ac, .ref ar, .ref awt] := hc8_0
  have hf_ap : f8 ap = eI g 6 pt := hc8_1
  have hf_ac : f8 ac = eI g 6 co := hc8_2
  have hf_ar : f8 ar = eI g 6 ro := hc8_3
  have hf_awt : f8 awt = eI g 48 wt := hc8_4
  replace hFr : Fr f f8 [ah, ap, ac, ar, awt] := hFr.tr hw8 (by simp)
  refine lv_aload_n hx hb dX6_lookAhead_11 rfl (lv_at hl 0 rfl) ?_
  refine pg_get (C := RX6) (T := TX6) (N := 10) hx hb hts hi_X6 hown hK hP hL_mh hf_mh rfl 9 (by decide) (hts (.fieldLink RX6 32 "BarometerLeagueModel" "ahead" "LBarometerLeagueModel$State;") (by decide +kernel)) (fun _ h9 => h9) rfl dX6_lookAhead_12 ?_
  exact hend f8 _ _ _ _ (⟨hf_ah, hf_ap, hf_ac, hf_ar, hf_awt, hFr⟩) hP hS dX6_lookAhead_15

set_option maxHeartbeats 4000000 in
set_option maxRecDepth 100000 in
theorem m_X6_pass (l : Launch) (g : GG) (L : List Nat) (f : Nat → va_E) (sz : Nat) (hN : L.Nodup) (mh mg mr mk mn ms nw ah n nv : Nat) (th : Int32)(oh op oc orr ow d : Nat) (ht : Int32) (gl rn kd nu sd pt co ro wt : Nat → Int32) (hL_mh : mh ∈ L) (hf_mh : f mh = eO 7 [.int th, .ref mg, .ref mr, .int (nI n), .ref mk, .ref mn, .int (nI nv), .ref ms, .ref nw, .ref ah]) (hL_mg : mg ∈ L) (hf_mg : f mg = eI g 12 gl) (hL_mr : mr ∈ L) (hf_mr : f mr = eI g 12 rn) (hL_mk : mk ∈ L) (hf_mk : f mk = eI g 8 kd) (hL_mn : mn ∈ L) (hf_mn : f mn = eI g 8 nu) (hL_ms : ms ∈ L) (hf_ms : f ms = eI g 8 sd) (hL_oh : oh ∈ L) (hf_oh : f oh = eO 6 [.int (nI d), .int ht, .ref op, .ref oc, .ref orr, .ref ow]) (hL_op : op ∈ L) (hf_op : f op = eI g 6 pt) (hL_oc : oc ∈ L) (hf_oc : f oc = eI g 6 co) (hL_orr : orr ∈ L) (hf_orr : f orr = eI g 6 ro) (hL_ow : ow ∈ L) (hf_ow : f ow = eI g 48 wt) (n_mk_ms : mk ≠ ms) (n_mn_ms : mn ≠ ms) (n_op_oc : op ≠ oc) (n_op_orr : op ≠ orr) (n_oc_orr : oc ≠ orr) (hn : n ≤ 8) (hnv : nv ≤ 6) (hd : d < 2 ^ 30) : RV l g yX6_pass wsX6_pass 2 48 L f sz [.ref mh, .ref oh] (fun f2 => f2 ms = eI g 8 (passM kd nu gl rn n nv (sd, d, ht, pt, co, ro, wt)).1 ∧ f2 oh = eO 6 [.int (nI (passM kd nu gl rn n nv (sd, d, ht, pt, co, ro, wt)).2.1), .int (passM kd nu gl rn n nv (sd, d, ht, pt, co, ro, wt)).2.2.1, .ref op, .ref oc, .ref orr, .ref ow] ∧ f2 op = eI g 6 (passM kd nu gl rn n nv (sd, d, ht, pt, co, ro, wt)).2.2.2.1 ∧ f2 oc = eI g 6 (passM kd nu gl rn n nv (sd, d, ht, pt, co, ro, wt)).2.2.2.2.1 ∧ f2 orr = eI g 6 (passM kd nu gl rn n nv (sd, d, ht, pt, co, ro, wt)).2.2.2.2.2.1 ∧ f2 ow = eI g 48 (passM kd nu gl rn n nv (sd, d, ht, pt, co, ro, wt)).2.2.2.2.2.2 ∧ Fr f f2 [ms, oh, op, oc, orr, ow]) := by
  refine RV.start (cc := cX6_pass) (maxL := 4) (by decide +kernel) rfl (by simp [lg_sl, Value.category]) ?_
  intro p e s m args below meth c Q ls A hx hb hml hts hown hA hA2 hS hP hK hl hend
  have hl : lv_has ls 4 [(0, .ref mh), (1, .ref oh)] := hl
  have hi_X5 : ∀ w ∈ u_ws RX5 TX5 6, w ∈ wsX6_pass := by decide +kernel
  have hi_X6 : ∀ w ∈ u_ws RX6 TX6 10, w ∈ wsX6_pass := by decide +kernel
  have hFr : Fr f f [ms, oh, op, oc, orr, ow] := Fr.rf
  have n_mh_mg : mh ≠ mg := ne_e hf_mh hf_mg (by simp)
  have n_mh_mr : mh ≠ mr := ne_e hf_mh hf_mr (by simp)
  have n_mh_mk : mh ≠ mk := ne_e hf_mh hf_mk (by simp)
  have n_mh_mn : mh ≠ mn := ne_e hf_mh hf_mn (by simp)
  have n_mh_ms : mh ≠ ms := ne_e hf_mh hf_ms (by simp)
  have n_mh_oh : mh ≠ oh := ne_e hf_mh hf_oh (by simp)
  have n_mh_op : mh ≠ op := ne_e hf_mh hf_op (by simp)
  have n_mh_oc : mh ≠ oc := ne_e hf_mh hf_oc (by simp)
  have n_mh_orr : mh ≠ orr := ne_e hf_mh hf_orr (by simp)
  have n_mh_ow : mh ≠ ow := ne_e hf_mh hf_ow (by simp)
  have n_mg_mk : mg ≠ mk := ne_e hf_mg hf_mk (by simp)
  have n_mg_mn : mg ≠ mn := ne_e hf_mg hf_mn (by simp)
  have n_mg_ms : mg ≠ ms := ne_e hf_mg hf_ms (by simp)
  have n_mg_oh : mg ≠ oh := ne_e hf_mg hf_oh (by simp)
  have n_mg_op : mg ≠ op := ne_e hf_mg hf_op (by simp)
  have n_mg_oc : mg ≠ oc := ne_e hf_mg hf_oc (by simp)
  have n_mg_orr : mg ≠ orr := ne_e hf_mg hf_orr (by simp)
  have n_mg_ow : mg ≠ ow := ne_e hf_mg hf_ow (by simp)
  have n_mr_mk : mr ≠ mk := ne_e hf_mr hf_mk (by simp)
  have n_mr_mn : mr ≠ mn := ne_e hf_mr hf_mn (by simp)
  have n_mr_ms : mr ≠ ms := ne_e hf_mr hf_ms (by simp)
  have n_mr_oh : mr ≠ oh := ne_e hf_mr hf_oh (by simp)
  have n_mr_op : mr ≠ op := ne_e hf_mr hf_op (by simp)
  have n_mr_oc : mr ≠ oc := ne_e hf_mr hf_oc (by simp)
  have n_mr_orr : mr ≠ orr := ne_e hf_mr hf_orr (by simp)
  have n_mr_ow : mr ≠ ow := ne_e hf_mr hf_ow (by simp)
  have n_mk_oh : mk ≠ oh := ne_e hf_mk hf_oh (by simp)
  have n_mk_op : mk ≠ op := ne_e hf_mk hf_op (by simp)
  have n_mk_oc : mk ≠ oc := ne_e hf_mk hf_oc (by simp)
  have n_mk_orr : mk ≠ orr := ne_e hf_mk hf_orr (by simp)
  have n_mk_ow : mk ≠ ow := ne_e hf_mk hf_ow (by simp)
  have n_mn_oh : mn ≠ oh := ne_e hf_mn hf_oh (by simp)
  have n_mn_op : mn ≠ op := ne_e hf_mn hf_op (by simp)
  have n_mn_oc : mn ≠ oc := ne_e hf_mn hf_oc (by simp)
  have n_mn_orr : mn ≠ orr := ne_e hf_mn hf_orr (by simp)
  have n_mn_ow : mn ≠ ow := ne_e hf_mn hf_ow (by simp)
  have n_ms_oh : ms ≠ oh := ne_e hf_ms hf_oh (by simp)
  have n_ms_op : ms ≠ op := ne_e hf_ms hf_op (by simp)
  have n_ms_oc : ms ≠ oc := ne_e hf_ms hf_oc (by simp)
  have n_ms_orr : ms ≠ orr := ne_e hf_ms hf_orr (by simp)
  have n_ms_ow : ms ≠ ow := ne_e hf_ms hf_ow (by simp)
  have n_oh_op : oh ≠ op := ne_e hf_oh hf_op (by simp)
  have n_oh_oc : oh ≠ oc := ne_e hf_oh hf_oc (by simp)
  have n_oh_orr : oh ≠ orr := ne_e hf_oh hf_orr (by simp)
  have n_oh_ow : oh ≠ ow := ne_e hf_oh hf_ow (by simp)
  have n_op_ow : op ≠ ow := ne_e hf_op hf_ow (by simp)
  have n_oc_ow : oc ≠ ow := ne_e hf_oc hf_ow (by simp)
  have n_orr_ow : orr ≠ ow := ne_e hf_orr hf_ow (by simp)
  have h0f_mh := hf_mh
  have h0f_mg := hf_mg
  have h0f_mr := hf_mr
  have h0f_mk := hf_mk
  have h0f_mn := hf_mn
  have h0f_ms := hf_ms
  have h0f_oh := hf_oh
  have h0f_op := hf_op
  have h0f_oc := hf_oc
  have h0f_orr := hf_orr
  have h0f_ow := hf_ow
  refine lv_aload_n hx hb dX6_pass_0 rfl (lv_at hl 0 rfl) ?_
  refine pg_get (C := RX6) (T := TX6) (N := 10) hx hb hts hi_X6 hown hK hP hL_mh hf_mh rfl 2 (by decide) (hts (.fieldLink RX6 13 "BarometerLeagueModel" "rains" "[I") (by decide +kernel)) (fun _ h9 => h9) rfl dX6_pass_1 ?_
  refine lv_aload_n hx hb dX6_pass_4 rfl (lv_at hl 1 rfl) ?_
  refine pg_getN (C := RX5) (T := TX5) (N := 6) hx hb hts hi_X5 hown hK hP hL_oh hf_oh rfl 0 (by decide) (hK.nest 7 rfl) (fun _ h9 => h9) rfl dX6_pass_5 ?_
  refine lv_bipush (v := 12) hx hb dX6_pass_8 (by decide) ?_
  refine lv_irem hx hb dX6_pass_10 (by decide) ?_
  refine lv_topi (fun v10 ev10 => ?_)
  have e10 : v10 = nI (d % 12) := by rw [ev10]; exact mIx hd
  refine pn_iald (j := d % 12) hx hb hK hP hL_mr hf_mr e10 (by omega) (Nat.lt_of_lt_of_le (m := 100) (by omega) (by omega)) dX6_pass_11 ?_
  refine lv_istore_n (lv' := [(2, .int (rn (d % 12))), (0, .ref mh), (1, .ref oh)]) hx hb dX6_pass_12 rfl hl (by decide) rfl (fun ls hl => ?_)
  refine lv_aload_n hx hb dX6_pass_13 rfl (lv_at hl 1 rfl) ?_
  refine lv_aload_n hx hb dX6_pass_14 rfl (lv_at hl 2 rfl) ?_
  refine pg_getN (C := RX5) (T := TX5) (N := 6) hx hb hts hi_X5 hown hK hP hL_oh hf_oh rfl 0 (by decide) (hK.nest 7 rfl) (fun _ h9 => h9) rfl dX6_pass_15 ?_
  refine rv_V (As := [.int (nI d)]) (rest := []) ⟨hx, hb, hml, hown, hts⟩ (m_X6_look l g L f _ hN _ _ _ _ _ _ _ _ _ _ _ _ _ _ _ _ _ hL_mh hf_mh hL_mg hf_mg hL_mr hf_mr hL_mk hf_mk hL_mn hf_mn hL_ms hf_ms n_mk_ms n_mn_ms hn hd) (cwV 1 hts gX6_pass_X6_look rfl rfl rfl (by decide +kernel) ⟨Nat.le_of_ble_eq_true rfl, Nat.le_of_ble_eq_true rfl⟩) hK hP hA hA2 hS hL_mh hf_mh rfl rfl hl.1 rfl (Nat.le_of_ble_eq_true rfl) dX6_pass_18 ⟨Nat.zero_le _, Nat.zero_le _⟩ (fun f18 H locs hr18 hP hS => ?_)
  obtain ⟨hc18_0, hw18⟩ := hr18
  have hf_mh : f18 mh = eO 7 [.int th, .ref mg, .ref mr, .int (nI n), .ref mk, .ref mn, .int (nI nv), .ref ms, .ref nw, .ref ah] := hw18.get hf_mh (nm_c n_mh_ms (List.not_mem_nil))
  have hf_mg : f18 mg = eI g 12 gl := hw18.get hf_mg (nm_c n_mg_ms (List.not_mem_nil))
  have hf_mr : f18 mr = eI g 12 rn := hw18.get hf_mr (nm_c n_mr_ms (List.not_mem_nil))
  have hf_mk : f18 mk = eI g 8 kd := hw18.get hf_mk (nm_c n_mk_ms (List.not_mem_nil))
  have hf_mn : f18 mn = eI g 8 nu := hw18.get hf_mn (nm_c n_mn_ms (List.not_mem_nil))
  have hf_oh : f18 oh = eO 6 [.int (nI d), .int ht, .ref op, .ref oc, .ref orr, .ref ow] := hw18.get hf_oh (nm_c n_ms_oh.symm (List.not_mem_nil))
  have hf_op : f18 op = eI g 6 pt := hw18.get hf_op (nm_c n_ms_op.symm (List.not_mem_nil))
  have hf_oc : f18 oc = eI g 6 co := hw18.get hf_oc (nm_c n_ms_oc.symm (List.not_mem_nil))
  have hf_orr : f18 orr = eI g 6 ro := hw18.get hf_orr (nm_c n_ms_orr.symm (List.not_mem_nil))
  have hf_ow : f18 ow = eI g 48 wt := hw18.get hf_ow (nm_c n_ms_ow.symm (List.not_mem_nil))
  have hf_ms : f18 ms = eI g 8 (sdM kd nu gl rn n d sd) := hc18_0
  replace hFr : Fr f f18 [ms, oh, op, oc, orr, ow] := hFr.tr hw18 (by simp)
  refine lv_iconst (v := 0) hx hb dX6_pass_21 (by decide) ?_
  refine lv_istore_n (lv' := [(3, .int 0), (2, .int (rn (d % 12))), (0, .ref mh), (1, .ref oh)]) hx hb dX6_pass_22 rfl hl (by decide) rfl (fun ls hl => ?_)
  obtain ⟨sd2, esd⟩ : ∃ z, z = sdM kd nu gl rn n d sd := ⟨_, rfl⟩
  rw [← esd] at hf_ms
  have hf_oh : f18 oh = eO 6 [.int (nI d), .int (htM sd2 wt n (rn (d % 12)) ht 0), .ref op, .ref oc, .ref orr, .ref ow] := by rw [hf_oh]; exact congrArg (fun z => eO 6 [.int (nI d), .int z, .ref op, .ref oc, .ref orr, .ref ow]) (Int32.add_zero ht).symm
  have hf_op : f18 op = eI g 6 (ptM sd2 wt n (rn (d % 12)) pt 0) := by rw [hf_op]; unfold ptM; rw [mapN_0]
  have hf_oc : f18 oc = eI g 6 (coM sd2 wt n (rn (d % 12)) ro co 0) := by rw [hf_oc]; unfold coM; rw [mapN_0]
  have hf_orr : f18 orr = eI g 6 (roM sd2 wt n (rn (d % 12)) ro 0) := by rw [hf_orr]; unfold roM; rw [mapN_0]
  have hf_ow : f18 ow = eI g 48 (wtM sd2 wt n (rn (d % 12)) 0) := by rw [hf_ow, wtM_0]
  have K23 : ∀ (n23 : Nat) (i : Nat) (f23 : Nat → va_E) (H : Heap) (locs : List Loc), nv - i < n23 → i ≤ nv → f23 ms = eI g 8 sd2 → f23 oh = eO 6 [.int (nI d), .int (htM sd2 wt n (rn (d % 12)) ht i), .ref op, .ref oc, .ref orr, .ref ow] → f23 op = eI g 6 (ptM sd2 wt n (rn (d % 12)) pt i) → f23 oc = eI g 6 (coM sd2 wt n (rn (d % 12)) ro co i) → f23 orr = eI g 6 (roM sd2 wt n (rn (d % 12)) ro i) → f23 ow = eI g 48 (wtM sd2 wt n (rn (d % 12)) i) → Fr f f23 [ms, oh, op, oc, orr, ow] → PP g L f23 H → va_S A s.heap H locs → ∀ (ls : Array Slot), lv_has ls 4 [(3, .int (nI i)), (2, .int (rn (d % 12))), (1, .ref oh), (0, .ref mh)] → W p l e ({ frames := 2, cells := 0, slots := 0, locals := 48 } : Room) s m args below meth c H locs 0 0 Q (F0 m 23 ls []) := by
    intro n23
    induction n23 with
    | zero => intros; omega
    | succ n23 ih23 =>
      intro i f23 H locs hm23 hi hq23_0 hq23_1 hq23_2 hq23_3 hq23_4 hq23_5 hFr hP hS ls hl
      have hf_mh : f23 mh = eO 7 [.int th, .ref mg, .ref mr, .int (nI n), .ref mk, .ref mn, .int (nI nv), .ref ms, .ref nw, .ref ah] := hFr.get h0f_mh (nm_c n_mh_ms (nm_c n_mh_oh (nm_c n_mh_op (nm_c n_mh_oc (nm_c n_mh_orr (nm_c n_mh_ow (List.not_mem_nil)))))))
      have hf_mg : f23 mg = eI g 12 gl := hFr.get h0f_mg (nm_c n_mg_ms (nm_c n_mg_oh (nm_c n_mg_op (nm_c n_mg_oc (nm_c n_mg_orr (nm_c n_mg_ow (List.not_mem_nil)))))))
      have hf_mr : f23 mr = eI g 12 rn := hFr.get h0f_mr (nm_c n_mr_ms (nm_c n_mr_oh (nm_c n_mr_op (nm_c n_mr_oc (nm_c n_mr_orr (nm_c n_mr_ow (List.not_mem_nil)))))))
      have hf_mk : f23 mk = eI g 8 kd := hFr.get h0f_mk (nm_c n_mk_ms (nm_c n_mk_oh (nm_c n_mk_op (nm_c n_mk_oc (nm_c n_mk_orr (nm_c n_mk_ow (List.not_mem_nil)))))))
      have hf_mn : f23 mn = eI g 8 nu := hFr.get h0f_mn (nm_c n_mn_ms (nm_c n_mn_oh (nm_c n_mn_op (nm_c n_mn_oc (nm_c n_mn_orr (nm_c n_mn_ow (List.not_mem_nil)))))))
      have hf_ms : f23 ms = eI g 8 sd2 := hq23_0
      have hf_oh : f23 oh = eO 6 [.int (nI d), .int (htM sd2 wt n (rn (d % 12)) ht i), .ref op, .ref oc, .ref orr, .ref ow] := hq23_1
      have hf_op : f23 op = eI g 6 (ptM sd2 wt n (rn (d % 12)) pt i) := hq23_2
      have hf_oc : f23 oc = eI g 6 (coM sd2 wt n (rn (d % 12)) ro co i) := hq23_3
      have hf_orr : f23 orr = eI g 6 (roM sd2 wt n (rn (d % 12)) ro i) := hq23_4
      have hf_ow : f23 ow = eI g 48 (wtM sd2 wt n (rn (d % 12)) i) := hq23_5
      refine lv_iload_n hx hb dX6_pass_23 rfl (lv_at hl 0 rfl) ?_
      refine lv_aload_n hx hb dX6_pass_24 rfl (lv_at hl 3 rfl) ?_
      refine pg_get (C := RX6) (T := TX6) (N := 10) hx hb hts hi_X6 hown hK hP hL_mh hf_mh rfl 6 (by decide) (hts (.fieldLink RX6 52 "BarometerLeagueModel" "villages" "I") (by decide +kernel)) (fun _ h9 => h9) rfl dX6_pass_25 ?_
      refine lv_icmp_ge (tgt := 56) hx hb dX6_pass_28 (by decide) (fun c28 => ?_) (fun c28 => ?_)
      · skip
        have c28 : nv ≤ i := (nI_leI (a := nv) (b := i) (by omega) (by omega)).mp (show nI nv ≤ nI i from c28)
        refine lv_aload_n hx hb dX6_pass_56 rfl (lv_at hl 2 rfl) ?_
        refine lv_dup hx hb dX6_pass_57 rfl ?_
        refine pg_getN (C := RX5) (T := TX5) (N := 6) hx hb hts hi_X5 hown hK hP hL_oh hf_oh rfl 0 (by decide) (hK.nest 7 rfl) (fun _ h9 => h9) rfl dX6_pass_58 ?_
        refine lv_iconst (v := 1) hx hb dX6_pass_61 (by decide) ?_
        refine lv_iadd hx hb dX6_pass_62 ?_
        refine lv_topi (fun v62 ev62 => ?_)
        refine pg_putN (ty := .int) (C := RX5) (T := TX5) (N := 6) hx hb hts hi_X5 tyX5 tyX5_ok nmX5 hown hK hP hN hA hS hL_oh hf_oh rfl 0 (by decide) (hK.nest 7 rfl) (fun _ h9 => h9) rfl (by decide +kernel) rfl rfl (Nat.le_of_ble_eq_true rfl) dX6_pass_63 (fun H locs hP hS => ?_)
        obtain ⟨f63, ef63⟩ : ∃ z, z = va_up f23 oh (eO 6 [.int v62, .int (htM sd2 wt n (rn (d % 12)) ht i), .ref op, .ref oc, .ref orr, .ref ow]) := ⟨_, rfl⟩
        replace hP : PP g L f63 H := by rw [ef63]; exact hP
        have hf_mh : f63 mh = eO 7 [.int th, .ref mg, .ref mr, .int (nI n), .ref mk, .ref mn, .int (nI nv), .ref ms, .ref nw, .ref ah] := by rw [ef63, va_up_ne _ _ n_mh_oh]; exact hf_mh
        have hf_mg : f63 mg = eI g 12 gl := by rw [ef63, va_up_ne _ _ n_mg_oh]; exact hf_mg
        have hf_mr : f63 mr = eI g 12 rn := by rw [ef63, va_up_ne _ _ n_mr_oh]; exact hf_mr
        have hf_mk : f63 mk = eI g 8 kd := by rw [ef63, va_up_ne _ _ n_mk_oh]; exact hf_mk
        have hf_mn : f63 mn = eI g 8 nu := by rw [ef63, va_up_ne _ _ n_mn_oh]; exact hf_mn
        have hf_ms : f63 ms = eI g 8 sd2 := by rw [ef63, va_up_ne _ _ n_ms_oh]; exact hf_ms
        have hf_op : f63 op = eI g 6 (ptM sd2 wt n (rn (d % 12)) pt i) := by rw [ef63, va_up_ne _ _ n_oh_op.symm]; exact hf_op
        have hf_oc : f63 oc = eI g 6 (coM sd2 wt n (rn (d % 12)) ro co i) := by rw [ef63, va_up_ne _ _ n_oh_oc.symm]; exact hf_oc
        have hf_orr : f63 orr = eI g 6 (roM sd2 wt n (rn (d % 12)) ro i) := by rw [ef63, va_up_ne _ _ n_oh_orr.symm]; exact hf_orr
        have hf_ow : f63 ow = eI g 48 (wtM sd2 wt n (rn (d % 12)) i) := by rw [ef63, va_up_ne _ _ n_oh_ow.symm]; exact hf_ow
        have hf_oh : f63 oh = eO 6 [.int v62, .int (htM sd2 wt n (rn (d % 12)) ht i), .ref op, .ref oc, .ref orr, .ref ow] := by rw [ef63]; exact va_up_self _ _ _
        replace hFr : Fr f f63 [ms, oh, op, oc, orr, ow] := by rw [ef63]; exact hFr.up (by simp)
        have hni : i = nv := by omega
        subst hni
        subst esd
        exact hend f63 _ _ _ _ (⟨hf_ms, by rw [hf_oh, ev62]; exact congrArg (fun z => eO 6 [.int z, .int (htM (sdM kd nu gl rn n d sd) wt n (rn (d % 12)) ht i), .ref op, .ref oc, .ref orr, .ref ow]) (nI_1 d), hf_op, hf_oc, hf_orr, hf_ow, hFr⟩) hP hS dX6_pass_66
      · skip
        have c28 : ¬ nv ≤ i := fun h => c28 ((nI_leI (a := nv) (b := i) (by omega) (by omega)).mpr h)
        refine lv_aload_n hx hb dX6_pass_31 rfl (lv_at hl 3 rfl) ?_
        refine lv_aload_n hx hb dX6_pass_32 rfl (lv_at hl 2 rfl) ?_
        refine lv_iload_n hx hb dX6_pass_33 rfl (lv_at hl 0 rfl) ?_
        refine lv_iload_n hx hb dX6_pass_34 rfl (lv_at hl 1 rfl) ?_
        refine rv_V (As := [.ref oh, .int (nI i), .int (rn (d % 12))]) (rest := []) ⟨hx, hb, hml, hown, hts⟩ (m_X6_guess l g L f23 _ hN _ _ _ _ _ _ _ _ _ _ _ _ _ _ _ _ _ _ _ _ _ _ _ _ hL_mh hf_mh hL_ms hf_ms hL_oh hf_oh hL_ow hf_ow hL_op hf_op hL_orr hf_orr n_op_orr hn (by omega)) (cwV 3 hts gX6_pass_X6_guess rfl rfl rfl (by decide +kernel) ⟨Nat.le_of_ble_eq_true rfl, Nat.le_of_ble_eq_true rfl⟩) hK hP hA hA2 hS hL_mh hf_mh rfl rfl hl.1 rfl (Nat.le_of_ble_eq_true rfl) dX6_pass_35 ⟨Nat.zero_le _, Nat.zero_le _⟩ (fun f35 H locs hr35 hP hS => ?_)
        obtain ⟨hc35_0, hc35_1, hc35_2, hw35⟩ := hr35
        have hf_mh : f35 mh = eO 7 [.int th, .ref mg, .ref mr, .int (nI n), .ref mk, .ref mn, .int (nI nv), .ref ms, .ref nw, .ref ah] := hw35.get hf_mh (nm_c n_mh_op (nm_c n_mh_oh (nm_c n_mh_orr (List.not_mem_nil))))
        have hf_mg : f35 mg = eI g 12 gl := hw35.get hf_mg (nm_c n_mg_op (nm_c n_mg_oh (nm_c n_mg_orr (List.not_mem_nil))))
        have hf_mr : f35 mr = eI g 12 rn := hw35.get hf_mr (nm_c n_mr_op (nm_c n_mr_oh (nm_c n_mr_orr (List.not_mem_nil))))
        have hf_mk : f35 mk = eI g 8 kd := hw35.get hf_mk (nm_c n_mk_op (nm_c n_mk_oh (nm_c n_mk_orr (List.not_mem_nil))))
        have hf_mn : f35 mn = eI g 8 nu := hw35.get hf_mn (nm_c n_mn_op (nm_c n_mn_oh (nm_c n_mn_orr (List.not_mem_nil))))
        have hf_ms : f35 ms = eI g 8 sd2 := hw35.get hf_ms (nm_c n_ms_op (nm_c n_ms_oh (nm_c n_ms_orr (List.not_mem_nil))))
        have hf_oc : f35 oc = eI g 6 (coM sd2 wt n (rn (d % 12)) ro co i) := hw35.get hf_oc (nm_c n_op_oc.symm (nm_c n_oh_oc.symm (nm_c n_oc_orr (List.not_mem_nil))))
        have hf_ow : f35 ow = eI g 48 (wtM sd2 wt n (rn (d % 12)) i) := hw35.get hf_ow (nm_c n_op_ow.symm (nm_c n_oh_ow.symm (nm_c n_orr_ow.symm (List.not_mem_nil))))
        have hf_op : f35 op = eI g 6 (upd (ptM sd2 wt n (rn (d % 12)) pt i) i ((ptM sd2 wt n (rn (d % 12)) pt i) i + b2i (mhit (leanN sd2 (wtM sd2 wt n (rn (d % 12)) i) i n) (rn (d % 12))))) := hc35_0
        have hf_oh : f35 oh = eO 6 [.int (nI d), .int ((htM sd2 wt n (rn (d % 12)) ht i) + b2i (mhit (leanN sd2 (wtM sd2 wt n (rn (d % 12)) i) i n) (rn (d % 12)))), .ref op, .ref oc, .ref orr, .ref ow] := hc35_1
        have hf_orr : f35 orr = eI g 6 (upd (roM sd2 wt n (rn (d % 12)) ro i) i (if mhit (leanN sd2 (wtM sd2 wt n (rn (d % 12)) i) i n) (rn (d % 12)) then (roM sd2 wt n (rn (d % 12)) ro i) i + 1 else 0)) := hc35_2
        replace hFr : Fr f f35 [ms, oh, op, oc, orr, ow] := hFr.tr hw35 (by simp)
        refine lv_aload_n hx hb dX6_pass_38 rfl (lv_at hl 3 rfl) ?_
        refine lv_aload_n hx hb dX6_pass_39 rfl (lv_at hl 2 rfl) ?_
        refine lv_iload_n hx hb dX6_pass_40 rfl (lv_at hl 0 rfl) ?_
        refine lv_iload_n hx hb dX6_pass_41 rfl (lv_at hl 1 rfl) ?_
        refine rv_V (As := [.ref oh, .int (nI i), .int (rn (d % 12))]) (rest := []) ⟨hx, hb, hml, hown, hts⟩ (m_X6_learn l g L f35 _ hN _ _ _ _ _ _ _ _ _ _ _ _ _ _ _ _ _ _ _ _ _ _ hL_mh hf_mh hL_ms hf_ms hL_oh hf_oh hL_ow hf_ow hn (by omega)) (cwV 3 hts gX6_pass_X6_learn rfl rfl rfl (by decide +kernel) ⟨Nat.le_of_ble_eq_true rfl, Nat.le_of_ble_eq_true rfl⟩) hK hP hA hA2 hS hL_mh hf_mh rfl rfl hl.1 rfl (Nat.le_of_ble_eq_true rfl) dX6_pass_42 ⟨Nat.zero_le _, Nat.zero_le _⟩ (fun f42 H locs hr42 hP hS => ?_)
        obtain ⟨hc42_0, hw42⟩ := hr42
        have hf_mh : f42 mh = eO 7 [.int th, .ref mg, .ref mr, .int (nI n), .ref mk, .ref mn, .int (nI nv), .ref ms, .ref nw, .ref ah] := hw42.get hf_mh (nm_c n_mh_ow (List.not_mem_nil))
        have hf_mg : f42 mg = eI g 12 gl := hw42.get hf_mg (nm_c n_mg_ow (List.not_mem_nil))
        have hf_mr : f42 mr = eI g 12 rn := hw42.get hf_mr (nm_c n_mr_ow (List.not_mem_nil))
        have hf_mk : f42 mk = eI g 8 kd := hw42.get hf_mk (nm_c n_mk_ow (List.not_mem_nil))
        have hf_mn : f42 mn = eI g 8 nu := hw42.get hf_mn (nm_c n_mn_ow (List.not_mem_nil))
        have hf_ms : f42 ms = eI g 8 sd2 := hw42.get hf_ms (nm_c n_ms_ow (List.not_mem_nil))
        have hf_oh : f42 oh = eO 6 [.int (nI d), .int ((htM sd2 wt n (rn (d % 12)) ht i) + b2i (mhit (leanN sd2 (wtM sd2 wt n (rn (d % 12)) i) i n) (rn (d % 12)))), .ref op, .ref oc, .ref orr, .ref ow] := hw42.get hf_oh (nm_c n_oh_ow (List.not_mem_nil))
        have hf_op : f42 op = eI g 6 (upd (ptM sd2 wt n (rn (d % 12)) pt i) i ((ptM sd2 wt n (rn (d % 12)) pt i) i + b2i (mhit (leanN sd2 (wtM sd2 wt n (rn (d % 12)) i) i n) (rn (d % 12))))) := hw42.get hf_op (nm_c n_op_ow (List.not_mem_nil))
        have hf_oc : f42 oc = eI g 6 (coM sd2 wt n (rn (d % 12)) ro co i) := hw42.get hf_oc (nm_c n_oc_ow (List.not_mem_nil))
        have hf_orr : f42 orr = eI g 6 (upd (roM sd2 wt n (rn (d % 12)) ro i) i (if mhit (leanN sd2 (wtM sd2 wt n (rn (d % 12)) i) i n) (rn (d % 12)) then (roM sd2 wt n (rn (d % 12)) ro i) i + 1 else 0)) := hw42.get hf_orr (nm_c n_orr_ow (List.not_mem_nil))
        have hf_ow : f42 ow = eI g 48 (rowN (fun j x => mlearn1 (rn (d % 12)) (sd2 j) x) (wtM sd2 wt n (rn (d % 12)) i) i n) := hc42_0
        replace hFr : Fr f f42 [ms, oh, op, oc, orr, ow] := hFr.tr hw42 (by simp)
        refine lv_aload_n hx hb dX6_pass_45 rfl (lv_at hl 2 rfl) ?_
        refine lv_iload_n hx hb dX6_pass_46 rfl (lv_at hl 0 rfl) ?_
        refine rv_S (As := [.ref oh, .int (nI i)]) (rest := []) ⟨hx, hb, hml, hown, hts⟩ (m_X6_sell l g L f42 _ hN _ _ _ _ _ _ _ _ _ _ hL_oh hf_oh hL_oc hf_oc hL_orr hf_orr n_oc_orr (by omega)) (va_cwS 2 hts gX6_pass_X6_sell rfl rfl rfl (by decide +kernel) ⟨Nat.le_of_ble_eq_true rfl, Nat.le_of_ble_eq_true rfl⟩) hK hP hA hA2 hS rfl hl.1 rfl (Nat.le_of_ble_eq_true rfl) dX6_pass_47 ⟨Nat.zero_le _, Nat.zero_le _⟩ (fun f47 H locs hr47 hP hS => ?_)
        obtain ⟨hc47_0, hw47⟩ := hr47
        have hf_mh : f47 mh = eO 7 [.int th, .ref mg, .ref mr, .int (nI n), .ref mk, .ref mn, .int (nI nv), .ref ms, .ref nw, .ref ah] := hw47.get hf_mh (nm_c n_mh_oc (List.not_mem_nil))
        have hf_mg : f47 mg = eI g 12 gl := hw47.get hf_mg (nm_c n_mg_oc (List.not_mem_nil))
        have hf_mr : f47 mr = eI g 12 rn := hw47.get hf_mr (nm_c n_mr_oc (List.not_mem_nil))
        have hf_mk : f47 mk = eI g 8 kd := hw47.get hf_mk (nm_c n_mk_oc (List.not_mem_nil))
        have hf_mn : f47 mn = eI g 8 nu := hw47.get hf_mn (nm_c n_mn_oc (List.not_mem_nil))
        have hf_ms : f47 ms = eI g 8 sd2 := hw47.get hf_ms (nm_c n_ms_oc (List.not_mem_nil))
        have hf_oh : f47 oh = eO 6 [.int (nI d), .int ((htM sd2 wt n (rn (d % 12)) ht i) + b2i (mhit (leanN sd2 (wtM sd2 wt n (rn (d % 12)) i) i n) (rn (d % 12)))), .ref op, .ref oc, .ref orr, .ref ow] := hw47.get hf_oh (nm_c n_oh_oc (List.not_mem_nil))
        have hf_op : f47 op = eI g 6 (upd (ptM sd2 wt n (rn (d % 12)) pt i) i ((ptM sd2 wt n (rn (d % 12)) pt i) i + b2i (mhit (leanN sd2 (wtM sd2 wt n (rn (d % 12)) i) i n) (rn (d % 12))))) := hw47.get hf_op (nm_c n_op_oc (List.not_mem_nil))
        have hf_orr : f47 orr = eI g 6 (upd (roM sd2 wt n (rn (d % 12)) ro i) i (if mhit (leanN sd2 (wtM sd2 wt n (rn (d % 12)) i) i n) (rn (d % 12)) then (roM sd2 wt n (rn (d % 12)) ro i) i + 1 else 0)) := hw47.get hf_orr (nm_c n_oc_orr.symm (List.not_mem_nil))
        have hf_ow : f47 ow = eI g 48 (rowN (fun j x => mlearn1 (rn (d % 12)) (sd2 j) x) (wtM sd2 wt n (rn (d % 12)) i) i n) := hw47.get hf_ow (nm_c n_oc_ow.symm (List.not_mem_nil))
        have hf_oc : f47 oc = eI g 6 (upd (coM sd2 wt n (rn (d % 12)) ro co i) i (msell1 ((upd (roM sd2 wt n (rn (d % 12)) ro i) i (if mhit (leanN sd2 (wtM sd2 wt n (rn (d % 12)) i) i n) (rn (d % 12)) then (roM sd2 wt n (rn (d % 12)) ro i) i + 1 else 0)) i) ((coM sd2 wt n (rn (d % 12)) ro co i) i))) := hc47_0
        replace hFr : Fr f f47 [ms, oh, op, oc, orr, ow] := hFr.tr hw47 (by simp)
        refine lv_iinc (v := nI (i + 1)) (lv' := [(3, .int (nI (i + 1))), (2, .int (rn (d % 12))), (1, .ref oh), (0, .ref mh)]) hx hb dX6_pass_50 hl (k := 0) rfl (nI_1 _) (by decide) rfl (fun ls hl => ?_)
        refine lv_goto (tgt := 23) hx hb dX6_pass_53 (by decide) ?_
        rw [HM_wtM sd2 wt (rn (d % 12)) i hn] at hf_op hf_oh hf_orr
        rw [ptM_s] at hf_op
        rw [roM_s] at hf_orr
        rw [HM_wtM sd2 wt (rn (d % 12)) i hn, roM_s, coM_s] at hf_oc
        rw [wtM_s] at hf_ow
        have hf_oh : f47 oh = eO 6 [.int (nI d), .int (htM sd2 wt n (rn (d % 12)) ht (i + 1)), .ref op, .ref oc, .ref orr, .ref ow] := by rw [hf_oh]; exact congrArg (fun z => eO 6 [.int (nI d), .int z, .ref op, .ref oc, .ref orr, .ref ow]) (Int32.add_assoc _ _ _)
        exact ih23 (i + 1) f47 H locs (by omega) (by omega) hf_ms hf_oh hf_op hf_oc hf_orr hf_ow hFr hP hS ls (lv_sub hl [0, 1, 2, 3] rfl)
  exact K23 _ 0 f18 _ _ (Nat.lt_succ_self _) (Nat.zero_le _) hf_ms hf_oh hf_op hf_oc hf_orr hf_ow hFr hP hS ls (lv_sub hl [0, 1, 3, 2] rfl)

set_option maxHeartbeats 4000000 in
set_option maxRecDepth 100000 in
theorem m_X6_passAll (l : Launch) (g : GG) (L : List Nat) (f : Nat → va_E) (sz : Nat) (hN : L.Nodup) (mh mg mr mk mn ms nw ah n nv : Nat) (th : Int32)(oh op oc orr ow d : Nat) (ht : Int32) (gl rn kd nu sd pt co ro wt : Nat → Int32) (k : Nat) (hL_mh : mh ∈ L) (hf_mh : f mh = eO 7 [.int th, .ref mg, .ref mr, .int (nI n), .ref mk, .ref mn, .int (nI nv), .ref ms, .ref nw, .ref ah]) (hL_mg : mg ∈ L) (hf_mg : f mg = eI g 12 gl) (hL_mr : mr ∈ L) (hf_mr : f mr = eI g 12 rn) (hL_mk : mk ∈ L) (hf_mk : f mk = eI g 8 kd) (hL_mn : mn ∈ L) (hf_mn : f mn = eI g 8 nu) (hL_ms : ms ∈ L) (hf_ms : f ms = eI g 8 sd) (hL_oh : oh ∈ L) (hf_oh : f oh = eO 6 [.int (nI d), .int ht, .ref op, .ref oc, .ref orr, .ref ow]) (hL_op : op ∈ L) (hf_op : f op = eI g 6 pt) (hL_oc : oc ∈ L) (hf_oc : f oc = eI g 6 co) (hL_orr : orr ∈ L) (hf_orr : f orr = eI g 6 ro) (hL_ow : ow ∈ L) (hf_ow : f ow = eI g 48 wt) (n_mk_ms : mk ≠ ms) (n_mn_ms : mn ≠ ms) (n_op_oc : op ≠ oc) (n_op_orr : op ≠ orr) (n_oc_orr : oc ≠ orr) (hn : n ≤ 8) (hnv : nv ≤ 6) (hd : d + k < 2 ^ 30) : RF l g yX6_passAll wsX6_passAll 3 71 L f sz [.ref mh, .ref oh, .int (nI k)] oh (fun f2 => f2 ms = eI g 8 (itM kd nu gl rn n nv (sd, d, ht, pt, co, ro, wt) k).1 ∧ f2 oh = eO 6 [.int (nI (itM kd nu gl rn n nv (sd, d, ht, pt, co, ro, wt) k).2.1), .int (itM kd nu gl rn n nv (sd, d, ht, pt, co, ro, wt) k).2.2.1, .ref op, .ref oc, .ref orr, .ref ow] ∧ f2 op = eI g 6 (itM kd nu gl rn n nv (sd, d, ht, pt, co, ro, wt) k).2.2.2.1 ∧ f2 oc = eI g 6 (itM kd nu gl rn n nv (sd, d, ht, pt, co, ro, wt) k).2.2.2.2.1 ∧ f2 orr = eI g 6 (itM kd nu gl rn n nv (sd, d, ht, pt, co, ro, wt) k).2.2.2.2.2.1 ∧ f2 ow = eI g 48 (itM kd nu gl rn n nv (sd, d, ht, pt, co, ro, wt) k).2.2.2.2.2.2 ∧ Fr f f2 [ms, oh, op, oc, orr, ow]) := by
  refine RF.start (cc := cX6_passAll) (maxL := 4) (ret := (.object "BarometerLeagueModel$State")) (by decide +kernel) rfl (by simp [lg_sl, Value.category]) (Or.inl ⟨_, rfl⟩) ?_
  intro p e s m args below meth c Q ls A hx hb hml hts hown hA hA2 hS hP hK hl hend
  have hl : lv_has ls 4 [(0, .ref mh), (1, .ref oh), (2, .int (nI k))] := hl
  have hFr : Fr f f [ms, oh, op, oc, orr, ow] := Fr.rf
  have n_mh_mg : mh ≠ mg := ne_e hf_mh hf_mg (by simp)
  have n_mh_mr : mh ≠ mr := ne_e hf_mh hf_mr (by simp)
  have n_mh_mk : mh ≠ mk := ne_e hf_mh hf_mk (by simp)
  have n_mh_mn : mh ≠ mn := ne_e hf_mh hf_mn (by simp)
  have n_mh_ms : mh ≠ ms := ne_e hf_mh hf_ms (by simp)
  have n_mh_oh : mh ≠ oh := ne_e hf_mh hf_oh (by simp)
  have n_mh_op : mh ≠ op := ne_e hf_mh hf_op (by simp)
  have n_mh_oc : mh ≠ oc := ne_e hf_mh hf_oc (by simp)
  have n_mh_orr : mh ≠ orr := ne_e hf_mh hf_orr (by simp)
  have n_mh_ow : mh ≠ ow := ne_e hf_mh hf_ow (by simp)
  have n_mg_mk : mg ≠ mk := ne_e hf_mg hf_mk (by simp)
  have n_mg_mn : mg ≠ mn := ne_e hf_mg hf_mn (by simp)
  have n_mg_ms : mg ≠ ms := ne_e hf_mg hf_ms (by simp)
  have n_mg_oh : mg ≠ oh := ne_e hf_mg hf_oh (by simp)
  have n_mg_op : mg ≠ op := ne_e hf_mg hf_op (by simp)
  have n_mg_oc : mg ≠ oc := ne_e hf_mg hf_oc (by simp)
  have n_mg_orr : mg ≠ orr := ne_e hf_mg hf_orr (by simp)
  have n_mg_ow : mg ≠ ow := ne_e hf_mg hf_ow (by simp)
  have n_mr_mk : mr ≠ mk := ne_e hf_mr hf_mk (by simp)
  have n_mr_mn : mr ≠ mn := ne_e hf_mr hf_mn (by simp)
  have n_mr_ms : mr ≠ ms := ne_e hf_mr hf_ms (by simp)
  have n_mr_oh : mr ≠ oh := ne_e hf_mr hf_oh (by simp)
  have n_mr_op : mr ≠ op := ne_e hf_mr hf_op (by simp)
  have n_mr_oc : mr ≠ oc := ne_e hf_mr hf_oc (by simp)
  have n_mr_orr : mr ≠ orr := ne_e hf_mr hf_orr (by simp)
  have n_mr_ow : mr ≠ ow := ne_e hf_mr hf_ow (by simp)
  have n_mk_oh : mk ≠ oh := ne_e hf_mk hf_oh (by simp)
  have n_mk_op : mk ≠ op := ne_e hf_mk hf_op (by simp)
  have n_mk_oc : mk ≠ oc := ne_e hf_mk hf_oc (by simp)
  have n_mk_orr : mk ≠ orr := ne_e hf_mk hf_orr (by simp)
  have n_mk_ow : mk ≠ ow := ne_e hf_mk hf_ow (by simp)
  have n_mn_oh : mn ≠ oh := ne_e hf_mn hf_oh (by simp)
  have n_mn_op : mn ≠ op := ne_e hf_mn hf_op (by simp)
  have n_mn_oc : mn ≠ oc := ne_e hf_mn hf_oc (by simp)
  have n_mn_orr : mn ≠ orr := ne_e hf_mn hf_orr (by simp)
  have n_mn_ow : mn ≠ ow := ne_e hf_mn hf_ow (by simp)
  have n_ms_oh : ms ≠ oh := ne_e hf_ms hf_oh (by simp)
  have n_ms_op : ms ≠ op := ne_e hf_ms hf_op (by simp)
  have n_ms_oc : ms ≠ oc := ne_e hf_ms hf_oc (by simp)
  have n_ms_orr : ms ≠ orr := ne_e hf_ms hf_orr (by simp)
  have n_ms_ow : ms ≠ ow := ne_e hf_ms hf_ow (by simp)
  have n_oh_op : oh ≠ op := ne_e hf_oh hf_op (by simp)
  have n_oh_oc : oh ≠ oc := ne_e hf_oh hf_oc (by simp)
  have n_oh_orr : oh ≠ orr := ne_e hf_oh hf_orr (by simp)
  have n_oh_ow : oh ≠ ow := ne_e hf_oh hf_ow (by simp)
  have n_op_ow : op ≠ ow := ne_e hf_op hf_ow (by simp)
  have n_oc_ow : oc ≠ ow := ne_e hf_oc hf_ow (by simp)
  have n_orr_ow : orr ≠ ow := ne_e hf_orr hf_ow (by simp)
  have h0f_mh := hf_mh
  have h0f_mg := hf_mg
  have h0f_mr := hf_mr
  have h0f_mk := hf_mk
  have h0f_mn := hf_mn
  have h0f_ms := hf_ms
  have h0f_oh := hf_oh
  have h0f_op := hf_op
  have h0f_oc := hf_oc
  have h0f_orr := hf_orr
  have h0f_ow := hf_ow
  refine lv_iconst (v := 0) hx hb dX6_passAll_0 (by decide) ?_
  refine lv_istore_n (lv' := [(3, .int 0), (0, .ref mh), (1, .ref oh), (2, .int (nI k))]) hx hb dX6_passAll_1 rfl hl (by decide) rfl (fun ls hl => ?_)
  have K2 : ∀ (n2 : Nat) (i : Nat) (f2 : Nat → va_E) (H : Heap) (locs : List Loc), k - i < n2 → i ≤ k → f2 ms = eI g 8 ((itM kd nu gl rn n nv (sd, d, ht, pt, co, ro, wt) i).1) → f2 oh = eO 6 [.int (nI ((itM kd nu gl rn n nv (sd, d, ht, pt, co, ro, wt) i).2.1)), .int ((itM kd nu gl rn n nv (sd, d, ht, pt, co, ro, wt) i).2.2.1), .ref op, .ref oc, .ref orr, .ref ow] → f2 op = eI g 6 ((itM kd nu gl rn n nv (sd, d, ht, pt, co, ro, wt) i).2.2.2.1) → f2 oc = eI g 6 ((itM kd nu gl rn n nv (sd, d, ht, pt, co, ro, wt) i).2.2.2.2.1) → f2 orr = eI g 6 ((itM kd nu gl rn n nv (sd, d, ht, pt, co, ro, wt) i).2.2.2.2.2.1) → f2 ow = eI g 48 ((itM kd nu gl rn n nv (sd, d, ht, pt, co, ro, wt) i).2.2.2.2.2.2) → Fr f f2 [ms, oh, op, oc, orr, ow] → PP g L f2 H → va_S A s.heap H locs → ∀ (ls : Array Slot), lv_has ls 4 [(3, .int (nI i)), (2, .int (nI k)), (1, .ref oh), (0, .ref mh)] → W p l e ({ frames := 3, cells := 0, slots := 0, locals := 71 } : Room) s m args below meth c H locs 0 0 Q (F0 m 2 ls []) := by
    intro n2
    induction n2 with
    | zero => intros; omega
    | succ n2 ih2 =>
      intro i f2 H locs hm2 hi hq2_0 hq2_1 hq2_2 hq2_3 hq2_4 hq2_5 hFr hP hS ls hl
      have hf_mh : f2 mh = eO 7 [.int th, .ref mg, .ref mr, .int (nI n), .ref mk, .ref mn, .int (nI nv), .ref ms, .ref nw, .ref ah] := hFr.get h0f_mh (nm_c n_mh_ms (nm_c n_mh_oh (nm_c n_mh_op (nm_c n_mh_oc (nm_c n_mh_orr (nm_c n_mh_ow (List.not_mem_nil)))))))
      have hf_mg : f2 mg = eI g 12 gl := hFr.get h0f_mg (nm_c n_mg_ms (nm_c n_mg_oh (nm_c n_mg_op (nm_c n_mg_oc (nm_c n_mg_orr (nm_c n_mg_ow (List.not_mem_nil)))))))
      have hf_mr : f2 mr = eI g 12 rn := hFr.get h0f_mr (nm_c n_mr_ms (nm_c n_mr_oh (nm_c n_mr_op (nm_c n_mr_oc (nm_c n_mr_orr (nm_c n_mr_ow (List.not_mem_nil)))))))
      have hf_mk : f2 mk = eI g 8 kd := hFr.get h0f_mk (nm_c n_mk_ms (nm_c n_mk_oh (nm_c n_mk_op (nm_c n_mk_oc (nm_c n_mk_orr (nm_c n_mk_ow (List.not_mem_nil)))))))
      have hf_mn : f2 mn = eI g 8 nu := hFr.get h0f_mn (nm_c n_mn_ms (nm_c n_mn_oh (nm_c n_mn_op (nm_c n_mn_oc (nm_c n_mn_orr (nm_c n_mn_ow (List.not_mem_nil)))))))
      have hf_ms : f2 ms = eI g 8 ((itM kd nu gl rn n nv (sd, d, ht, pt, co, ro, wt) i).1) := hq2_0
      have hf_oh : f2 oh = eO 6 [.int (nI ((itM kd nu gl rn n nv (sd, d, ht, pt, co, ro, wt) i).2.1)), .int ((itM kd nu gl rn n nv (sd, d, ht, pt, co, ro, wt) i).2.2.1), .ref op, .ref oc, .ref orr, .ref ow] := hq2_1
      have hf_op : f2 op = eI g 6 ((itM kd nu gl rn n nv (sd, d, ht, pt, co, ro, wt) i).2.2.2.1) := hq2_2
      have hf_oc : f2 oc = eI g 6 ((itM kd nu gl rn n nv (sd, d, ht, pt, co, ro, wt) i).2.2.2.2.1) := hq2_3
      have hf_orr : f2 orr = eI g 6 ((itM kd nu gl rn n nv (sd, d, ht, pt, co, ro, wt) i).2.2.2.2.2.1) := hq2_4
      have hf_ow : f2 ow = eI g 48 ((itM kd nu gl rn n nv (sd, d, ht, pt, co, ro, wt) i).2.2.2.2.2.2) := hq2_5
      refine lv_iload_n hx hb dX6_passAll_2 rfl (lv_at hl 0 rfl) ?_
      refine lv_iload_n hx hb dX6_passAll_3 rfl (lv_at hl 1 rfl) ?_
      refine lv_icmp_ge (tgt := 18) hx hb dX6_passAll_4 (by decide) (fun c4 => ?_) (fun c4 => ?_)
      · skip
        have c4 : k ≤ i := (nI_leI (a := k) (b := i) (by omega) (by omega)).mp (show nI k ≤ nI i from c4)
        refine lv_aload_n hx hb dX6_passAll_18 rfl (lv_at hl 2 rfl) ?_
        have hni : i = k := by omega
        subst hni
        exact hend f2 _ _ _ _ (⟨hf_ms, hf_oh, hf_op, hf_oc, hf_orr, hf_ow, hFr⟩) hP hS dX6_passAll_19
      · skip
        have c4 : ¬ k ≤ i := fun h => c4 ((nI_leI (a := k) (b := i) (by omega) (by omega)).mpr h)
        refine lv_aload_n hx hb dX6_passAll_7 rfl (lv_at hl 3 rfl) ?_
        refine lv_aload_n hx hb dX6_passAll_8 rfl (lv_at hl 2 rfl) ?_
        refine rv_V (As := [.ref oh]) (rest := []) ⟨hx, hb, hml, hown, hts⟩ (m_X6_pass l g L f2 _ hN _ _ _ _ _ _ _ _ _ _ _ _ _ _ _ _ _ _ _ _ _ _ _ _ _ _ _ hL_mh hf_mh hL_mg hf_mg hL_mr hf_mr hL_mk hf_mk hL_mn hf_mn hL_ms hf_ms hL_oh hf_oh hL_op hf_op hL_oc hf_oc hL_orr hf_orr hL_ow hf_ow n_mk_ms n_mn_ms n_op_oc n_op_orr n_oc_orr hn hnv (Nat.lt_of_le_of_lt (Nat.le_of_eq (itM_d _ _ _ _ _ _ _ _)) (show d + i < 2 ^ 30 by omega))) (cwV 1 hts gX6_passAll_X6_pass rfl rfl rfl (by decide +kernel) ⟨Nat.le_of_ble_eq_true rfl, Nat.le_of_ble_eq_true rfl⟩) hK hP hA hA2 hS hL_mh hf_mh rfl rfl hl.1 rfl (Nat.le_of_ble_eq_true rfl) dX6_passAll_9 ⟨Nat.zero_le _, Nat.zero_le _⟩ (fun f9 H locs hr9 hP hS => ?_)
        obtain ⟨hc9_0, hc9_1, hc9_2, hc9_3, hc9_4, hc9_5, hw9⟩ := hr9
        have hf_mh : f9 mh = eO 7 [.int th, .ref mg, .ref mr, .int (nI n), .ref mk, .ref mn, .int (nI nv), .ref ms, .ref nw, .ref ah] := hw9.get hf_mh (nm_c n_mh_ms (nm_c n_mh_oh (nm_c n_mh_op (nm_c n_mh_oc (nm_c n_mh_orr (nm_c n_mh_ow (List.not_mem_nil)))))))
        have hf_mg : f9 mg = eI g 12 gl := hw9.get hf_mg (nm_c n_mg_ms (nm_c n_mg_oh (nm_c n_mg_op (nm_c n_mg_oc (nm_c n_mg_orr (nm_c n_mg_ow (List.not_mem_nil)))))))
        have hf_mr : f9 mr = eI g 12 rn := hw9.get hf_mr (nm_c n_mr_ms (nm_c n_mr_oh (nm_c n_mr_op (nm_c n_mr_oc (nm_c n_mr_orr (nm_c n_mr_ow (List.not_mem_nil)))))))
        have hf_mk : f9 mk = eI g 8 kd := hw9.get hf_mk (nm_c n_mk_ms (nm_c n_mk_oh (nm_c n_mk_op (nm_c n_mk_oc (nm_c n_mk_orr (nm_c n_mk_ow (List.not_mem_nil)))))))
        have hf_mn : f9 mn = eI g 8 nu := hw9.get hf_mn (nm_c n_mn_ms (nm_c n_mn_oh (nm_c n_mn_op (nm_c n_mn_oc (nm_c n_mn_orr (nm_c n_mn_ow (List.not_mem_nil)))))))
        have hf_ms : f9 ms = eI g 8 ((passM kd nu gl rn n nv ((itM kd nu gl rn n nv (sd, d, ht, pt, co, ro, wt) i).1, (itM kd nu gl rn n nv (sd, d, ht, pt, co, ro, wt) i).2.1, (itM kd nu gl rn n nv (sd, d, ht, pt, co, ro, wt) i).2.2.1, (itM kd nu gl rn n nv (sd, d, ht, pt, co, ro, wt) i).2.2.2.1, (itM kd nu gl rn n nv (sd, d, ht, pt, co, ro, wt) i).2.2.2.2.1, (itM kd nu gl rn n nv (sd, d, ht, pt, co, ro, wt) i).2.2.2.2.2.1, (itM kd nu gl rn n nv (sd, d, ht, pt, co, ro, wt) i).2.2.2.2.2.2)).1) := hc9_0
        have hf_oh : f9 oh = eO 6 [.int (nI ((passM kd nu gl rn n nv ((itM kd nu gl rn n nv (sd, d, ht, pt, co, ro, wt) i).1, (itM kd nu gl rn n nv (sd, d, ht, pt, co, ro, wt) i).2.1, (itM kd nu gl rn n nv (sd, d, ht, pt, co, ro, wt) i).2.2.1, (itM kd nu gl rn n nv (sd, d, ht, pt, co, ro, wt) i).2.2.2.1, (itM kd nu gl rn n nv (sd, d, ht, pt, co, ro, wt) i).2.2.2.2.1, (itM kd nu gl rn n nv (sd, d, ht, pt, co, ro, wt) i).2.2.2.2.2.1, (itM kd nu gl rn n nv (sd, d, ht, pt, co, ro, wt) i).2.2.2.2.2.2)).2.1)), .int ((passM kd nu gl rn n nv ((itM kd nu gl rn n nv (sd, d, ht, pt, co, ro, wt) i).1, (itM kd nu gl rn n nv (sd, d, ht, pt, co, ro, wt) i).2.1, (itM kd nu gl rn n nv (sd, d, ht, pt, co, ro, wt) i).2.2.1, (itM kd nu gl rn n nv (sd, d, ht, pt, co, ro, wt) i).2.2.2.1, (itM kd nu gl rn n nv (sd, d, ht, pt, co, ro, wt) i).2.2.2.2.1, (itM kd nu gl rn n nv (sd, d, ht, pt, co, ro, wt) i).2.2.2.2.2.1, (itM kd nu gl rn n nv (sd, d, ht, pt, co, ro, wt) i).2.2.2.2.2.2)).2.2.1), .ref op, .ref oc, .ref orr, .ref ow] := hc9_1
        have hf_op : f9 op = eI g 6 ((passM kd nu gl rn n nv ((itM kd nu gl rn n nv (sd, d, ht, pt, co, ro, wt) i).1, (itM kd nu gl rn n nv (sd, d, ht, pt, co, ro, wt) i).2.1, (itM kd nu gl rn n nv (sd, d, ht, pt, co, ro, wt) i).2.2.1, (itM kd nu gl rn n nv (sd, d, ht, pt, co, ro, wt) i).2.2.2.1, (itM kd nu gl rn n nv (sd, d, ht, pt, co, ro, wt) i).2.2.2.2.1, (itM kd nu gl rn n nv (sd, d, ht, pt, co, ro, wt) i).2.2.2.2.2.1, (itM kd nu gl rn n nv (sd, d, ht, pt, co, ro, wt) i).2.2.2.2.2.2)).2.2.2.1) := hc9_2
        have hf_oc : f9 oc = eI g 6 ((passM kd nu gl rn n nv ((itM kd nu gl rn n nv (sd, d, ht, pt, co, ro, wt) i).1, (itM kd nu gl rn n nv (sd, d, ht, pt, co, ro, wt) i).2.1, (itM kd nu gl rn n nv (sd, d, ht, pt, co, ro, wt) i).2.2.1, (itM kd nu gl rn n nv (sd, d, ht, pt, co, ro, wt) i).2.2.2.1, (itM kd nu gl rn n nv (sd, d, ht, pt, co, ro, wt) i).2.2.2.2.1, (itM kd nu gl rn n nv (sd, d, ht, pt, co, ro, wt) i).2.2.2.2.2.1, (itM kd nu gl rn n nv (sd, d, ht, pt, co, ro, wt) i).2.2.2.2.2.2)).2.2.2.2.1) := hc9_3
        have hf_orr : f9 orr = eI g 6 ((passM kd nu gl rn n nv ((itM kd nu gl rn n nv (sd, d, ht, pt, co, ro, wt) i).1, (itM kd nu gl rn n nv (sd, d, ht, pt, co, ro, wt) i).2.1, (itM kd nu gl rn n nv (sd, d, ht, pt, co, ro, wt) i).2.2.1, (itM kd nu gl rn n nv (sd, d, ht, pt, co, ro, wt) i).2.2.2.1, (itM kd nu gl rn n nv (sd, d, ht, pt, co, ro, wt) i).2.2.2.2.1, (itM kd nu gl rn n nv (sd, d, ht, pt, co, ro, wt) i).2.2.2.2.2.1, (itM kd nu gl rn n nv (sd, d, ht, pt, co, ro, wt) i).2.2.2.2.2.2)).2.2.2.2.2.1) := hc9_4
        have hf_ow : f9 ow = eI g 48 ((passM kd nu gl rn n nv ((itM kd nu gl rn n nv (sd, d, ht, pt, co, ro, wt) i).1, (itM kd nu gl rn n nv (sd, d, ht, pt, co, ro, wt) i).2.1, (itM kd nu gl rn n nv (sd, d, ht, pt, co, ro, wt) i).2.2.1, (itM kd nu gl rn n nv (sd, d, ht, pt, co, ro, wt) i).2.2.2.1, (itM kd nu gl rn n nv (sd, d, ht, pt, co, ro, wt) i).2.2.2.2.1, (itM kd nu gl rn n nv (sd, d, ht, pt, co, ro, wt) i).2.2.2.2.2.1, (itM kd nu gl rn n nv (sd, d, ht, pt, co, ro, wt) i).2.2.2.2.2.2)).2.2.2.2.2.2) := hc9_5
        replace hFr : Fr f f9 [ms, oh, op, oc, orr, ow] := hFr.tr hw9 (by simp)
        refine lv_iinc (v := nI (i + 1)) (lv' := [(3, .int (nI (i + 1))), (2, .int (nI k)), (1, .ref oh), (0, .ref mh)]) hx hb dX6_passAll_12 hl (k := 0) rfl (nI_1 _) (by decide) rfl (fun ls hl => ?_)
        refine lv_goto (tgt := 2) hx hb dX6_passAll_15 (by decide) ?_
        have hf_ms : f9 ms = eI g 8 ((itM kd nu gl rn n nv (sd, d, ht, pt, co, ro, wt) (i + 1)).1) := hf_ms
        have hf_oh : f9 oh = eO 6 [.int (nI ((itM kd nu gl rn n nv (sd, d, ht, pt, co, ro, wt) (i + 1)).2.1)), .int ((itM kd nu gl rn n nv (sd, d, ht, pt, co, ro, wt) (i + 1)).2.2.1), .ref op, .ref oc, .ref orr, .ref ow] := hf_oh
        have hf_op : f9 op = eI g 6 ((itM kd nu gl rn n nv (sd, d, ht, pt, co, ro, wt) (i + 1)).2.2.2.1) := hf_op
        have hf_oc : f9 oc = eI g 6 ((itM kd nu gl rn n nv (sd, d, ht, pt, co, ro, wt) (i + 1)).2.2.2.2.1) := hf_oc
        have hf_orr : f9 orr = eI g 6 ((itM kd nu gl rn n nv (sd, d, ht, pt, co, ro, wt) (i + 1)).2.2.2.2.2.1) := hf_orr
        have hf_ow : f9 ow = eI g 48 ((itM kd nu gl rn n nv (sd, d, ht, pt, co, ro, wt) (i + 1)).2.2.2.2.2.2) := hf_ow
        exact ih2 (i + 1) f9 H locs (by omega) (by omega) hf_ms hf_oh hf_op hf_oc hf_orr hf_ow hFr hP hS ls (lv_sub hl [0, 1, 2, 3] rfl)
  exact K2 _ 0 f _ _ (Nat.lt_succ_self _) (Nat.zero_le _) hf_ms hf_oh hf_op hf_oc hf_orr hf_ow hFr hP hS ls (lv_sub hl [0, 3, 2, 1] rfl)

set_option maxHeartbeats 4000000 in
set_option maxRecDepth 100000 in
theorem m_X6_placeOf (l : Launch) (g : GG) (L : List Nat) (f : Nat → va_E) (mh mg mr mk mn ms n nv : Nat) (th : Int32) (ah nw np nc nr nwt d : Nat) (ht : Int32) (pt co : Nat → Int32) (v : Nat) (hL_mh : mh ∈ L) (hf_mh : f mh = eO 7 [.int th, .ref mg, .ref mr, .int (nI n), .ref mk, .ref mn, .int (nI nv), .ref ms, .ref nw, .ref ah]) (hL_nw : nw ∈ L) (hf_nw : f nw = eO 6 [.int (nI d), .int ht, .ref np, .ref nc, .ref nr, .ref nwt]) (hL_np : np ∈ L) (hf_np : f np = eI g 6 pt) (hL_nc : nc ∈ L) (hf_nc : f nc = eI g 6 co) (hnv : nv ≤ 6) (hv : v < 6) : RO l g yX6_placeOf wsX6_placeOf 1 22 L f [.ref mh, .int (nI v)] (fun r => r = placeM pt co nv v) := by
  refine RO.start (cc := cX6_placeOf) (maxL := 4) (ret := .int) (by decide +kernel) rfl (by simp [lg_sl, Value.category]) ?_
  intro p e s m args below meth c Q ls hx hb hml hts hown hP hK hl hend
  have hl : lv_has ls 4 [(0, .ref mh), (1, .int (nI v))] := hl
  have hi_X6 : ∀ w ∈ u_ws RX6 TX6 10, w ∈ wsX6_placeOf := by decide +kernel
  have n_mh_nw : mh ≠ nw := ne_e hf_mh hf_nw (by simp)
  have n_mh_np : mh ≠ np := ne_e hf_mh hf_np (by simp)
  have n_mh_nc : mh ≠ nc := ne_e hf_mh hf_nc (by simp)
  have n_nw_np : nw ≠ np := ne_e hf_nw hf_np (by simp)
  have n_nw_nc : nw ≠ nc := ne_e hf_nw hf_nc (by simp)
  refine lv_iconst (v := 1) hx hb dX6_placeOf_0 (by decide) ?_
  refine lv_istore_n (lv' := [(2, .int 1), (0, .ref mh), (1, .int (nI v))]) hx hb dX6_placeOf_1 rfl hl (by decide) rfl (fun ls hl => ?_)
  refine lv_iconst (v := 0) hx hb dX6_placeOf_2 (by decide) ?_
  refine lv_istore_n (lv' := [(3, .int 0), (2, .int 1), (0, .ref mh), (1, .int (nI v))]) hx hb dX6_placeOf_3 rfl hl (by decide) rfl (fun ls hl => ?_)
  have K4 : ∀ (n4 : Nat) (i : Nat) (acc : Int32), nv - i < n4 → i ≤ nv → acc = 1 + sumN (fun k => b2i (aheadB (pt k) (co k) (nI k) (pt v) (co v) (nI v))) i → ∀ (ls : Array Slot), lv_has ls 4 [(3, .int (nI i)), (2, .int acc), (1, .int (nI v)), (0, .ref mh)] → W p l e ({ frames := 1, cells := 0, slots := 0, locals := 22 } : Room) s m args below meth c s.heap [] 0 0 Q (F0 m 4 ls []) := by
    intro n4
    induction n4 with
    | zero => intros; omega
    | succ n4 ih4 =>
      intro i acc hm4 hi ha ls hl
      refine lv_iload_n hx hb dX6_placeOf_4 rfl (lv_at hl 0 rfl) ?_
      refine lv_aload_n hx hb dX6_placeOf_5 rfl (lv_at hl 3 rfl) ?_
      refine pg_get (C := RX6) (T := TX6) (N := 10) hx hb hts hi_X6 hown hK hP hL_mh hf_mh rfl 6 (by decide) (hts (.fieldLink RX6 52 "BarometerLeagueModel" "villages" "I") (by decide +kernel)) (fun _ h9 => h9) rfl dX6_placeOf_6 ?_
      refine lv_icmp_ge (tgt := 43) hx hb dX6_placeOf_9 (by decide) (fun c9 => ?_) (fun c9 => ?_)
      · skip
        have c9 : nv ≤ i := (nI_leI (a := nv) (b := i) (by omega) (by omega)).mp (show nI nv ≤ nI i from c9)
        refine lv_iload_n hx hb dX6_placeOf_43 rfl (lv_at hl 1 rfl) ?_
        exact hend (acc) _ _ (by rw [ha, show i = nv from (by omega)]; rfl) rfl dX6_placeOf_44
      · skip
        have c9 : ¬ nv ≤ i := fun h => c9 ((nI_leI (a := nv) (b := i) (by omega) (by omega)).mpr h)
        refine lv_iload_n hx hb dX6_placeOf_12 rfl (lv_at hl 1 rfl) ?_
        refine lv_iload_n hx hb dX6_placeOf_13 rfl (lv_at hl 0 rfl) ?_
        refine lv_iload_n hx hb dX6_placeOf_14 rfl (lv_at hl 2 rfl) ?_
        refine lv_icmp_eq (tgt := 34) hx hb dX6_placeOf_15 (by decide) (fun c15 => ?_) (fun c15 => ?_)
        · skip
          have c15 : i = v := (nI_eq (a := i) (b := v) (by omega) (by omega)).mp (show nI i = nI v from c15)
          refine lv_iconst (v := 0) hx hb dX6_placeOf_34 (by decide) ?_
          refine lv_iadd hx hb dX6_placeOf_35 ?_
          refine lv_topi (fun v35 ev35 => ?_)
          refine lv_istore_n (lv' := [(2, .int v35), (3, .int (nI i)), (1, .int (nI v)), (0, .ref mh)]) hx hb dX6_placeOf_36 rfl hl (by decide) rfl (fun ls hl => ?_)
          refine lv_iinc (v := nI (i + 1)) (lv' := [(3, .int (nI (i + 1))), (2, .int v35), (1, .int (nI v)), (0, .ref mh)]) hx hb dX6_placeOf_37 hl (k := 1) rfl (nI_1 _) (by decide) rfl (fun ls hl => ?_)
          refine lv_goto (tgt := 4) hx hb dX6_placeOf_40 (by decide) ?_
          exact ih4 (i + 1) v35 (by omega) (by omega) (sum1_s ha (ev35.trans (congrArg (acc + ·) (by show (0 : Int32) = b2i (aheadB (pt i) (co i) (nI i) (pt v) (co v) (nI v)); rw [c15, ahead_self]; rfl)))) ls (lv_sub hl [0, 1, 2, 3] rfl)
        · skip
          have c15 : ¬ i = v := fun h => c15 ((nI_eq (a := i) (b := v) (by omega) (by omega)).mpr h)
          refine lv_aload_n hx hb dX6_placeOf_18 rfl (lv_at hl 3 rfl) ?_
          refine pg_get (C := RX6) (T := TX6) (N := 10) hx hb hts hi_X6 hown hK hP hL_mh hf_mh rfl 8 (by decide) (hts (.fieldLink RX6 28 "BarometerLeagueModel" "now" "LBarometerLeagueModel$State;") (by decide +kernel)) (fun _ h9 => h9) rfl dX6_placeOf_19 ?_
          refine lv_iload_n hx hb dX6_placeOf_22 rfl (lv_at hl 0 rfl) ?_
          refine lv_iload_n hx hb dX6_placeOf_23 rfl (lv_at hl 2 rfl) ?_
          refine ro_S (As := [.ref nw, .int (nI i), .int (nI v)]) (rest := [.int acc]) ⟨hx, hb, hml, hown, hts⟩ (m_X6_isBetter l g L f _ _ _ _ _ _ _ _ _ i v hL_nw hf_nw hL_np hf_np hL_nc hf_nc (by omega) hv) (va_cwS 3 hts gX6_placeOf_X6_isBetter rfl rfl rfl (by decide +kernel) ⟨Nat.le_of_ble_eq_true rfl, Nat.le_of_ble_eq_true rfl⟩) hK hP rfl hl.1 rfl (Nat.le_of_ble_eq_true rfl) dX6_placeOf_24 ⟨Nat.zero_le _, Nat.zero_le _⟩ (fun r24 hr24 => ?_)
          have hr24 : r24 = b2i (aheadB (pt i) (co i) (nI i) (pt v) (co v) (nI v)) := hr24
          subst hr24
          refine lv_if_eq (tgt := 34) hx hb dX6_placeOf_27 (by decide) (fun c27 => ?_) (fun c27 => ?_)
          · skip
            refine lv_iconst (v := 0) hx hb dX6_placeOf_34 (by decide) ?_
            refine lv_iadd hx hb dX6_placeOf_35 ?_
            refine lv_topi (fun v35 ev35 => ?_)
            refine lv_istore_n (lv' := [(2, .int v35), (3, .int (nI i)), (1, .int (nI v)), (0, .ref mh)]) hx hb dX6_placeOf_36 rfl hl (by decide) rfl (fun ls hl => ?_)
            refine lv_iinc (v := nI (i + 1)) (lv' := [(3, .int (nI (i + 1))), (2, .int v35), (1, .int (nI v)), (0, .ref mh)]) hx hb dX6_placeOf_37 hl (k := 1) rfl (nI_1 _) (by decide) rfl (fun ls hl => ?_)
            refine lv_goto (tgt := 4) hx hb dX6_placeOf_40 (by decide) ?_
            exact ih4 (i + 1) v35 (by omega) (by omega) (sum1_s ha (b2z c27 ev35)) ls (lv_sub hl [0, 1, 2, 3] rfl)
          · skip
            refine lv_iconst (v := 1) hx hb dX6_placeOf_30 (by decide) ?_
            refine lv_goto (tgt := 35) hx hb dX6_placeOf_31 (by decide) ?_
            refine lv_iadd hx hb dX6_placeOf_35 ?_
            refine lv_topi (fun v35 ev35 => ?_)
            refine lv_istore_n (lv' := [(2, .int v35), (3, .int (nI i)), (1, .int (nI v)), (0, .ref mh)]) hx hb dX6_placeOf_36 rfl hl (by decide) rfl (fun ls hl => ?_)
            refine lv_iinc (v := nI (i + 1)) (lv' := [(3, .int (nI (i + 1))), (2, .int v35), (1, .int (nI v)), (0, .ref mh)]) hx hb dX6_placeOf_37 hl (k := 1) rfl (nI_1 _) (by decide) rfl (fun ls hl => ?_)
            refine lv_goto (tgt := 4) hx hb dX6_placeOf_40 (by decide) ?_
            exact ih4 (i + 1) v35 (by omega) (by omega) (sum1_s ha (b2o c27 ev35)) ls (lv_sub hl [0, 1, 2, 3] rfl)
  exact K4 _ 0 1 (Nat.lt_succ_self _) (Nat.zero_le _) (rfl) ls (lv_sub hl [0, 1, 3, 2] rfl)

set_option maxHeartbeats 4000000 in
set_option maxRecDepth 100000 in
theorem m_X6_rainGuessed (l : Launch) (g : GG) (L : List Nat) (f : Nat → va_E) (sz : Nat) (hN : L.Nodup) (mh mg mr mk mn ms nw ah n nv : Nat) (th : Int32)(oh op oc orr ow d : Nat) (ht : Int32) (gl rn kd nu sd wt : Nat → Int32) (hL_mh : mh ∈ L) (hf_mh : f mh = eO 7 [.int th, .ref mg, .ref mr, .int (nI n), .ref mk, .ref mn, .int (nI nv), .ref ms, .ref nw, .ref ah]) (hL_mg : mg ∈ L) (hf_mg : f mg = eI g 12 gl) (hL_mr : mr ∈ L) (hf_mr : f mr = eI g 12 rn) (hL_mk : mk ∈ L) (hf_mk : f mk = eI g 8 kd) (hL_mn : mn ∈ L) (hf_mn : f mn = eI g 8 nu) (hL_ms : ms ∈ L) (hf_ms : f ms = eI g 8 sd) (hL_oh : oh ∈ L) (hf_oh : f oh = eO 6 [.int (nI d), .int ht, .ref op, .ref oc, .ref orr, .ref ow]) (hL_ow : ow ∈ L) (hf_ow : f ow = eI g 48 wt) (n_mk_ms : mk ≠ ms) (n_mn_ms : mn ≠ ms) (hn : n ≤ 8) (hnv : nv ≤ 6) (hd : d < 2 ^ 30) : RW l g yX6_rainGuessed wsX6_rainGuessed 2 46 L f sz [.ref mh, .ref oh] (fun r f2 => r = guessM (sdM kd nu gl rn n d sd) wt n nv ∧ f2 ms = eI g 8 (sdM kd nu gl rn n d sd) ∧ Fr f f2 [ms]) := by
  refine RW.start (cc := cX6_rainGuessed) (maxL := 4) (ret := .int) (by decide +kernel) rfl (by simp [lg_sl, Value.category]) ?_
  intro p e s m args below meth c Q ls A hx hb hml hts hown hA hA2 hS hP hK hl hend
  have hl : lv_has ls 4 [(0, .ref mh), (1, .ref oh)] := hl
  have hi_X5 : ∀ w ∈ u_ws RX5 TX5 6, w ∈ wsX6_rainGuessed := by decide +kernel
  have hi_X6 : ∀ w ∈ u_ws RX6 TX6 10, w ∈ wsX6_rainGuessed := by decide +kernel
  have hFr : Fr f f [ms] := Fr.rf
  have n_mh_mg : mh ≠ mg := ne_e hf_mh hf_mg (by simp)
  have n_mh_mr : mh ≠ mr := ne_e hf_mh hf_mr (by simp)
  have n_mh_mk : mh ≠ mk := ne_e hf_mh hf_mk (by simp)
  have n_mh_mn : mh ≠ mn := ne_e hf_mh hf_mn (by simp)
  have n_mh_ms : mh ≠ ms := ne_e hf_mh hf_ms (by simp)
  have n_mh_oh : mh ≠ oh := ne_e hf_mh hf_oh (by simp)
  have n_mh_ow : mh ≠ ow := ne_e hf_mh hf_ow (by simp)
  have n_mg_mk : mg ≠ mk := ne_e hf_mg hf_mk (by simp)
  have n_mg_mn : mg ≠ mn := ne_e hf_mg hf_mn (by simp)
  have n_mg_ms : mg ≠ ms := ne_e hf_mg hf_ms (by simp)
  have n_mg_oh : mg ≠ oh := ne_e hf_mg hf_oh (by simp)
  have n_mg_ow : mg ≠ ow := ne_e hf_mg hf_ow (by simp)
  have n_mr_mk : mr ≠ mk := ne_e hf_mr hf_mk (by simp)
  have n_mr_mn : mr ≠ mn := ne_e hf_mr hf_mn (by simp)
  have n_mr_ms : mr ≠ ms := ne_e hf_mr hf_ms (by simp)
  have n_mr_oh : mr ≠ oh := ne_e hf_mr hf_oh (by simp)
  have n_mr_ow : mr ≠ ow := ne_e hf_mr hf_ow (by simp)
  have n_mk_oh : mk ≠ oh := ne_e hf_mk hf_oh (by simp)
  have n_mk_ow : mk ≠ ow := ne_e hf_mk hf_ow (by simp)
  have n_mn_oh : mn ≠ oh := ne_e hf_mn hf_oh (by simp)
  have n_mn_ow : mn ≠ ow := ne_e hf_mn hf_ow (by simp)
  have n_ms_oh : ms ≠ oh := ne_e hf_ms hf_oh (by simp)
  have n_ms_ow : ms ≠ ow := ne_e hf_ms hf_ow (by simp)
  have n_oh_ow : oh ≠ ow := ne_e hf_oh hf_ow (by simp)
  have h0f_mh := hf_mh
  have h0f_mg := hf_mg
  have h0f_mr := hf_mr
  have h0f_mk := hf_mk
  have h0f_mn := hf_mn
  have h0f_ms := hf_ms
  have h0f_oh := hf_oh
  have h0f_ow := hf_ow
  refine lv_aload_n hx hb dX6_rainGuessed_0 rfl (lv_at hl 0 rfl) ?_
  refine lv_aload_n hx hb dX6_rainGuessed_1 rfl (lv_at hl 1 rfl) ?_
  refine pg_getN (C := RX5) (T := TX5) (N := 6) hx hb hts hi_X5 hown hK hP hL_oh hf_oh rfl 0 (by decide) (hK.nest 7 rfl) (fun _ h9 => h9) rfl dX6_rainGuessed_2 ?_
  refine rv_V (As := [.int (nI d)]) (rest := []) ⟨hx, hb, hml, hown, hts⟩ (m_X6_look l g L f _ hN _ _ _ _ _ _ _ _ _ _ _ _ _ _ _ _ _ hL_mh hf_mh hL_mg hf_mg hL_mr hf_mr hL_mk hf_mk hL_mn hf_mn hL_ms hf_ms n_mk_ms n_mn_ms hn hd) (cwV 1 hts gX6_rainGuessed_X6_look rfl rfl rfl (by decide +kernel) ⟨Nat.le_of_ble_eq_true rfl, Nat.le_of_ble_eq_true rfl⟩) hK hP hA hA2 hS hL_mh hf_mh rfl rfl hl.1 rfl (Nat.le_of_ble_eq_true rfl) dX6_rainGuessed_5 ⟨Nat.zero_le _, Nat.zero_le _⟩ (fun f5 H locs hr5 hP hS => ?_)
  obtain ⟨hc5_0, hw5⟩ := hr5
  have hf_mh : f5 mh = eO 7 [.int th, .ref mg, .ref mr, .int (nI n), .ref mk, .ref mn, .int (nI nv), .ref ms, .ref nw, .ref ah] := hw5.get hf_mh (nm_c n_mh_ms (List.not_mem_nil))
  have hf_mg : f5 mg = eI g 12 gl := hw5.get hf_mg (nm_c n_mg_ms (List.not_mem_nil))
  have hf_mr : f5 mr = eI g 12 rn := hw5.get hf_mr (nm_c n_mr_ms (List.not_mem_nil))
  have hf_mk : f5 mk = eI g 8 kd := hw5.get hf_mk (nm_c n_mk_ms (List.not_mem_nil))
  have hf_mn : f5 mn = eI g 8 nu := hw5.get hf_mn (nm_c n_mn_ms (List.not_mem_nil))
  have hf_oh : f5 oh = eO 6 [.int (nI d), .int ht, .ref op, .ref oc, .ref orr, .ref ow] := hw5.get hf_oh (nm_c n_ms_oh.symm (List.not_mem_nil))
  have hf_ow : f5 ow = eI g 48 wt := hw5.get hf_ow (nm_c n_ms_ow.symm (List.not_mem_nil))
  have hf_ms : f5 ms = eI g 8 (sdM kd nu gl rn n d sd) := hc5_0
  replace hFr : Fr f f5 [ms] := hFr.tr hw5 (by simp)
  refine lv_iconst (v := 0) hx hb dX6_rainGuessed_8 (by decide) ?_
  refine lv_istore_n (lv' := [(2, .int 0), (0, .ref mh), (1, .ref oh)]) hx hb dX6_rainGuessed_9 rfl hl (by decide) rfl (fun ls hl => ?_)
  refine lv_iconst (v := 0) hx hb dX6_rainGuessed_10 (by decide) ?_
  refine lv_istore_n (lv' := [(3, .int 0), (2, .int 0), (0, .ref mh), (1, .ref oh)]) hx hb dX6_rainGuessed_11 rfl hl (by decide) rfl (fun ls hl => ?_)
  have K12 : ∀ (n12 : Nat) (i : Nat) (acc : Int32), nv - i < n12 → i ≤ nv → acc = guessM (sdM kd nu gl rn n d sd) wt n i → ∀ (ls : Array Slot), lv_has ls 4 [(3, .int (nI i)), (2, .int acc), (1, .ref oh), (0, .ref mh)] → W p l e ({ frames := 2, cells := 0, slots := 0, locals := 46 } : Room) s m args below meth c H locs 0 0 Q (F0 m 12 ls []) := by
    intro n12
    induction n12 with
    | zero => intros; omega
    | succ n12 ih12 =>
      intro i acc hm12 hi ha ls hl
      refine lv_iload_n hx hb dX6_rainGuessed_12 rfl (lv_at hl 0 rfl) ?_
      refine lv_aload_n hx hb dX6_rainGuessed_13 rfl (lv_at hl 3 rfl) ?_
      refine pg_get (C := RX6) (T := TX6) (N := 10) hx hb hts hi_X6 hown hK hP hL_mh hf_mh rfl 6 (by decide) (hts (.fieldLink RX6 52 "BarometerLeagueModel" "villages" "I") (by decide +kernel)) (fun _ h9 => h9) rfl dX6_rainGuessed_14 ?_
      refine lv_icmp_ge (tgt := 43) hx hb dX6_rainGuessed_17 (by decide) (fun c17 => ?_) (fun c17 => ?_)
      · skip
        have c17 : nv ≤ i := (nI_leI (a := nv) (b := i) (by omega) (by omega)).mp (show nI nv ≤ nI i from c17)
        refine lv_iload_n hx hb dX6_rainGuessed_43 rfl (lv_at hl 1 rfl) ?_
        exact hend (acc) f5 _ _ _ _ (⟨by rw [ha, show i = nv from (by omega)], hf_ms, hFr⟩) hP hS rfl dX6_rainGuessed_44
      · skip
        have c17 : ¬ nv ≤ i := fun h => c17 ((nI_leI (a := nv) (b := i) (by omega) (by omega)).mpr h)
        refine lv_iload_n hx hb dX6_rainGuessed_20 rfl (lv_at hl 1 rfl) ?_
        refine lv_aload_n hx hb dX6_rainGuessed_21 rfl (lv_at hl 3 rfl) ?_
        refine lv_aload_n hx hb dX6_rainGuessed_22 rfl (lv_at hl 2 rfl) ?_
        refine lv_iload_n hx hb dX6_rainGuessed_23 rfl (lv_at hl 0 rfl) ?_
        refine ro_V (As := [.ref oh, .int (nI i)]) (rest := [.int acc]) ⟨hx, hb, hml, hown, hts⟩ (m_X6_lean l g L f5 _ _ _ _ _ _ _ _ _ _ _ _ _ _ _ _ _ _ _ _ _ hL_mh hf_mh hL_ms hf_ms hL_oh hf_oh hL_ow hf_ow hn (by omega)) (cwV 2 hts gX6_rainGuessed_X6_lean rfl rfl rfl (by decide +kernel) ⟨Nat.le_of_ble_eq_true rfl, Nat.le_of_ble_eq_true rfl⟩) hK hP hL_mh hf_mh rfl rfl hl.1 rfl (Nat.le_of_ble_eq_true rfl) dX6_rainGuessed_24 ⟨Nat.zero_le _, Nat.zero_le _⟩ (fun r24 hr24 => ?_)
        have hr24 : r24 = leanN (sdM kd nu gl rn n d sd) wt i n := hr24
        subst hr24
        refine lv_if_le (tgt := 34) hx hb dX6_rainGuessed_27 (by decide) (fun c27 => ?_) (fun c27 => ?_)
        · skip
          refine lv_iconst (v := 0) hx hb dX6_rainGuessed_34 (by decide) ?_
          refine lv_iadd hx hb dX6_rainGuessed_35 ?_
          refine lv_topi (fun v35 ev35 => ?_)
          refine lv_istore_n (lv' := [(2, .int v35), (3, .int (nI i)), (1, .ref oh), (0, .ref mh)]) hx hb dX6_rainGuessed_36 rfl hl (by decide) rfl (fun ls hl => ?_)
          refine lv_iinc (v := nI (i + 1)) (lv' := [(3, .int (nI (i + 1))), (2, .int v35), (1, .ref oh), (0, .ref mh)]) hx hb dX6_rainGuessed_37 hl (k := 1) rfl (nI_1 _) (by decide) rfl (fun ls hl => ?_)
          refine lv_goto (tgt := 12) hx hb dX6_rainGuessed_40 (by decide) ?_
          exact ih12 (i + 1) v35 (by omega) (by omega) (sumN_s ha (b2le c27 ev35)) ls (lv_sub hl [0, 1, 2, 3] rfl)
        · skip
          refine lv_iconst (v := 1) hx hb dX6_rainGuessed_30 (by decide) ?_
          refine lv_goto (tgt := 35) hx hb dX6_rainGuessed_31 (by decide) ?_
          refine lv_iadd hx hb dX6_rainGuessed_35 ?_
          refine lv_topi (fun v35 ev35 => ?_)
          refine lv_istore_n (lv' := [(2, .int v35), (3, .int (nI i)), (1, .ref oh), (0, .ref mh)]) hx hb dX6_rainGuessed_36 rfl hl (by decide) rfl (fun ls hl => ?_)
          refine lv_iinc (v := nI (i + 1)) (lv' := [(3, .int (nI (i + 1))), (2, .int v35), (1, .ref oh), (0, .ref mh)]) hx hb dX6_rainGuessed_37 hl (k := 1) rfl (nI_1 _) (by decide) rfl (fun ls hl => ?_)
          refine lv_goto (tgt := 12) hx hb dX6_rainGuessed_40 (by decide) ?_
          exact ih12 (i + 1) v35 (by omega) (by omega) (sumN_s ha (b2gt c27 ev35)) ls (lv_sub hl [0, 1, 2, 3] rfl)
  exact K12 _ 0 0 (Nat.lt_succ_self _) (Nat.zero_le _) (rfl) ls (lv_sub hl [0, 1, 3, 2] rfl)

set_option maxHeartbeats 4000000 in
set_option maxRecDepth 100000 in
theorem m_X6_weightsOf (l : Launch) (g : GG) (L : List Nat) (f : Nat → va_E) (mh mg mr mk mn ms n nv : Nat) (th : Int32) (ah nw np nc nr nwt d : Nat) (ht : Int32) (wt : Nat → Int32) (v : Nat) (hL_mh : mh ∈ L) (hf_mh : f mh = eO 7 [.int th, .ref mg, .ref mr, .int (nI n), .ref mk, .ref mn, .int (nI nv), .ref ms, .ref nw, .ref ah]) (hL_nw : nw ∈ L) (hf_nw : f nw = eO 6 [.int (nI d), .int ht, .ref np, .ref nc, .ref nr, .ref nwt]) (hL_nwt : nwt ∈ L) (hf_nwt : f nwt = eI g 48 wt) (hn : n ≤ 8) (hv : v < 6) : RO l g yX6_weightsOf wsX6_weightsOf 0 0 L f [.ref mh, .int (nI v)] (fun r => r = sumN (fun j => wt (8 * v + j)) n) := by
  refine RO.start (cc := cX6_weightsOf) (maxL := 4) (ret := .int) (by decide +kernel) rfl (by simp [lg_sl, Value.category]) ?_
  intro p e s m args below meth c Q ls hx hb hml hts hown hP hK hl hend
  have hl : lv_has ls 4 [(0, .ref mh), (1, .int (nI v))] := hl
  have hi_X5 : ∀ w ∈ u_ws RX5 TX5 6, w ∈ wsX6_weightsOf := by decide +kernel
  have hi_X6 : ∀ w ∈ u_ws RX6 TX6 10, w ∈ wsX6_weightsOf := by decide +kernel
  have n_mh_nw : mh ≠ nw := ne_e hf_mh hf_nw (by simp)
  have n_mh_nwt : mh ≠ nwt := ne_e hf_mh hf_nwt (by simp)
  have n_nw_nwt : nw ≠ nwt := ne_e hf_nw hf_nwt (by simp)
  refine lv_iconst (v := 0) hx hb dX6_weightsOf_0 (by decide) ?_
  refine lv_istore_n (lv' := [(2, .int 0), (0, .ref mh), (1, .int (nI v))]) hx hb dX6_weightsOf_1 rfl hl (by decide) rfl (fun ls hl => ?_)
  refine lv_iconst (v := 0) hx hb dX6_weightsOf_2 (by decide) ?_
  refine lv_istore_n (lv' := [(3, .int 0), (2, .int 0), (0, .ref mh), (1, .int (nI v))]) hx hb dX6_weightsOf_3 rfl hl (by decide) rfl (fun ls hl => ?_)
  have K4 : ∀ (n4 : Nat) (i : Nat) (acc : Int32), n - i < n4 → i ≤ n → acc = sumN (fun j => wt (8 * v + j)) i → ∀ (ls : Array Slot), lv_has ls 4 [(3, .int (nI i)), (2, .int acc), (1, .int (nI v)), (0, .ref mh)] → W p l e ({ frames := 0, cells := 0, slots := 0, locals := 0 } : Room) s m args below meth c s.heap [] 0 0 Q (F0 m 4 ls []) := by
    intro n4
    induction n4 with
    | zero => intros; omega
    | succ n4 ih4 =>
      intro i acc hm4 hi ha ls hl
      refine lv_iload_n hx hb dX6_weightsOf_4 rfl (lv_at hl 0 rfl) ?_
      refine lv_aload_n hx hb dX6_weightsOf_5 rfl (lv_at hl 3 rfl) ?_
      refine pg_get (C := RX6) (T := TX6) (N := 10) hx hb hts hi_X6 hown hK hP hL_mh hf_mh rfl 3 (by decide) (hts (.fieldLink RX6 45 "BarometerLeagueModel" "signs" "I") (by decide +kernel)) (fun _ h9 => h9) rfl dX6_weightsOf_6 ?_
      refine lv_icmp_ge (tgt := 35) hx hb dX6_weightsOf_9 (by decide) (fun c9 => ?_) (fun c9 => ?_)
      · skip
        have c9 : n ≤ i := (nI_leI (a := n) (b := i) (by omega) (by omega)).mp (show nI n ≤ nI i from c9)
        refine lv_iload_n hx hb dX6_weightsOf_35 rfl (lv_at hl 1 rfl) ?_
        exact hend (acc) _ _ (by rw [ha, show i = n from (by omega)]) rfl dX6_weightsOf_36
      · skip
        have c9 : ¬ n ≤ i := fun h => c9 ((nI_leI (a := n) (b := i) (by omega) (by omega)).mpr h)
        refine lv_iload_n hx hb dX6_weightsOf_12 rfl (lv_at hl 1 rfl) ?_
        refine lv_aload_n hx hb dX6_weightsOf_13 rfl (lv_at hl 3 rfl) ?_
        refine pg_get (C := RX6) (T := TX6) (N := 10) hx hb hts hi_X6 hown hK hP hL_mh hf_mh rfl 8 (by decide) (hts (.fieldLink RX6 28 "BarometerLeagueModel" "now" "LBarometerLeagueModel$State;") (by decide +kernel)) (fun _ h9 => h9) rfl dX6_weightsOf_14 ?_
        refine pg_getN (C := RX5) (T := TX5) (N := 6) hx hb hts hi_X5 hown hK hP hL_nw hf_nw rfl 5 (by decide) (hK.nest 12 rfl) (fun _ h9 => h9) rfl dX6_weightsOf_17 ?_
        refine lv_bipush (v := 8) hx hb dX6_weightsOf_20 (by decide) ?_
        refine lv_iload_n hx hb dX6_weightsOf_22 rfl (lv_at hl 2 rfl) ?_
        refine lv_imul hx hb dX6_weightsOf_23 ?_
        refine lv_topi (fun v23 ev23 => ?_)
        refine lv_iload_n hx hb dX6_weightsOf_24 rfl (lv_at hl 0 rfl) ?_
        refine lv_iadd hx hb dX6_weightsOf_25 ?_
        refine lv_topi (fun v25 ev25 => ?_)
        refine pn_iald (j := 8 * v + i) hx hb hK hP hL_nwt hf_nwt (ev25.trans (nat_add (ev23.trans (nat_mul rfl rfl)) rfl)) (by omega) (Nat.lt_of_lt_of_le (m := 100) (by omega) (by omega)) dX6_weightsOf_26 ?_
        refine lv_iadd hx hb dX6_weightsOf_27 ?_
        refine lv_topi (fun v27 ev27 => ?_)
        refine lv_istore_n (lv' := [(2, .int v27), (3, .int (nI i)), (1, .int (nI v)), (0, .ref mh)]) hx hb dX6_weightsOf_28 rfl hl (by decide) rfl (fun ls hl => ?_)
        refine lv_iinc (v := nI (i + 1)) (lv' := [(3, .int (nI (i + 1))), (2, .int v27), (1, .int (nI v)), (0, .ref mh)]) hx hb dX6_weightsOf_29 hl (k := 1) rfl (nI_1 _) (by decide) rfl (fun ls hl => ?_)
        refine lv_goto (tgt := 4) hx hb dX6_weightsOf_32 (by decide) ?_
        exact ih4 (i + 1) v27 (by omega) (by omega) (sumN_s ha ev27) ls (lv_sub hl [0, 1, 2, 3] rfl)
  exact K4 _ 0 0 (Nat.lt_succ_self _) (Nat.zero_le _) (rfl) ls (lv_sub hl [0, 1, 3, 2] rfl)

set_option maxHeartbeats 4000000 in
set_option maxRecDepth 100000 in
theorem m_X6_signTold (l : Launch) (g : GG) (L : List Nat) (f : Nat → va_E) (mh mg mr mk mn ms ah n nv : Nat) (th : Int32) (gl rn kd nu : Nat → Int32) (nw np nc nr nwt d : Nat) (ht : Int32) (wt : Nat → Int32) (j k : Nat) (hL_mh : mh ∈ L) (hf_mh : f mh = eO 7 [.int th, .ref mg, .ref mr, .int (nI n), .ref mk, .ref mn, .int (nI nv), .ref ms, .ref nw, .ref ah]) (hL_mg : mg ∈ L) (hf_mg : f mg = eI g 12 gl) (hL_mr : mr ∈ L) (hf_mr : f mr = eI g 12 rn) (hL_mk : mk ∈ L) (hf_mk : f mk = eI g 8 kd) (hL_mn : mn ∈ L) (hf_mn : f mn = eI g 8 nu) (hL_nw : nw ∈ L) (hf_nw : f nw = eO 6 [.int (nI d), .int ht, .ref np, .ref nc, .ref nr, .ref nwt]) (hL_nwt : nwt ∈ L) (hf_nwt : f nwt = eI g 48 wt) (hnv : nv ≤ 6) (hj : j < 8) (hk : k < 4) : RO l g yX6_signTold wsX6_signTold 3 69 L f [.ref mh, .int (nI j), .int (nI k)] (fun r => r = toldM kd nu gl rn wt nv j k) := by
  refine RO.start (cc := cX6_signTold) (maxL := 5) (ret := .int) (by decide +kernel) rfl (by simp [lg_sl, Value.category]) ?_
  intro p e s m args below meth c Q ls hx hb hml hts hown hP hK hl hend
  have hl : lv_has ls 5 [(0, .ref mh), (1, .int (nI j)), (2, .int (nI k))] := hl
  have hi_X5 : ∀ w ∈ u_ws RX5 TX5 6, w ∈ wsX6_signTold := by decide +kernel
  have hi_X6 : ∀ w ∈ u_ws RX6 TX6 10, w ∈ wsX6_signTold := by decide +kernel
  have n_mh_mg : mh ≠ mg := ne_e hf_mh hf_mg (by simp)
  have n_mh_mr : mh ≠ mr := ne_e hf_mh hf_mr (by simp)
  have n_mh_mk : mh ≠ mk := ne_e hf_mh hf_mk (by simp)
  have n_mh_mn : mh ≠ mn := ne_e hf_mh hf_mn (by simp)
  have n_mh_nw : mh ≠ nw := ne_e hf_mh hf_nw (by simp)
  have n_mh_nwt : mh ≠ nwt := ne_e hf_mh hf_nwt (by simp)
  have n_mg_mk : mg ≠ mk := ne_e hf_mg hf_mk (by simp)
  have n_mg_mn : mg ≠ mn := ne_e hf_mg hf_mn (by simp)
  have n_mg_nw : mg ≠ nw := ne_e hf_mg hf_nw (by simp)
  have n_mg_nwt : mg ≠ nwt := ne_e hf_mg hf_nwt (by simp)
  have n_mr_mk : mr ≠ mk := ne_e hf_mr hf_mk (by simp)
  have n_mr_mn : mr ≠ mn := ne_e hf_mr hf_mn (by simp)
  have n_mr_nw : mr ≠ nw := ne_e hf_mr hf_nw (by simp)
  have n_mr_nwt : mr ≠ nwt := ne_e hf_mr hf_nwt (by simp)
  have n_mk_nw : mk ≠ nw := ne_e hf_mk hf_nw (by simp)
  have n_mk_nwt : mk ≠ nwt := ne_e hf_mk hf_nwt (by simp)
  have n_mn_nw : mn ≠ nw := ne_e hf_mn hf_nw (by simp)
  have n_mn_nwt : mn ≠ nwt := ne_e hf_mn hf_nwt (by simp)
  have n_nw_nwt : nw ≠ nwt := ne_e hf_nw hf_nwt (by simp)
  refine lv_iload_n hx hb dX6_signTold_0 rfl (lv_at hl 2 rfl) ?_
  refine lv_iconst (v := 3) hx hb dX6_signTold_1 (by decide) ?_
  refine lv_icmp_ge (tgt := 38) hx hb dX6_signTold_2 (by decide) (fun c2 => ?_) (fun c2 => ?_)
  · skip
    have c2 : 3 ≤ k := (nI_leI (a := 3) (b := k) (by omega) (by omega)).mp (show nI 3 ≤ nI k from c2)
    refine lv_iconst (v := 0) hx hb dX6_signTold_38 (by decide) ?_
    refine lv_istore_n (lv' := [(3, .int 0), (0, .ref mh), (1, .int (nI j)), (2, .int (nI k))]) hx hb dX6_signTold_39 rfl hl (by decide) rfl (fun ls hl => ?_)
    refine lv_iconst (v := 0) hx hb dX6_signTold_40 (by decide) ?_
    refine lv_istore (lv' := [(4, .int 0), (3, .int 0), (0, .ref mh), (1, .int (nI j)), (2, .int (nI k))]) hx hb dX6_signTold_41 hl (by decide) rfl (fun ls hl => ?_)
    have K43 : ∀ (n43 : Nat) (i : Nat) (acc : Int32), nv - i < n43 → i ≤ nv → acc = sumN (fun v => wt (8 * v + j)) i → ∀ (ls : Array Slot), lv_has ls 5 [(4, .int (nI i)), (3, .int acc), (2, .int (nI k)), (1, .int (nI j)), (0, .ref mh)] → W p l e ({ frames := 3, cells := 0, slots := 0, locals := 69 } : Room) s m args below meth c s.heap [] 0 0 Q (F0 m 43 ls []) := by
      intro n43
      induction n43 with
      | zero => intros; omega
      | succ n43 ih43 =>
        intro i acc hm43 hi ha ls hl
        refine lv_iload hx hb dX6_signTold_43 (lv_at hl 0 rfl) ?_
        refine lv_aload_n hx hb dX6_signTold_45 rfl (lv_at hl 4 rfl) ?_
        refine pg_get (C := RX6) (T := TX6) (N := 10) hx hb hts hi_X6 hown hK hP hL_mh hf_mh rfl 6 (by decide) (hts (.fieldLink RX6 52 "BarometerLeagueModel" "villages" "I") (by decide +kernel)) (fun _ h9 => h9) rfl dX6_signTold_46 ?_
        refine lv_icmp_ge (tgt := 76) hx hb dX6_signTold_49 (by decide) (fun c49 => ?_) (fun c49 => ?_)
        · skip
          have c49 : nv ≤ i := (nI_leI (a := nv) (b := i) (by omega) (by omega)).mp (show nI nv ≤ nI i from c49)
          refine lv_iload_n hx hb dX6_signTold_76 rfl (lv_at hl 1 rfl) ?_
          exact hend (acc) _ _ (by unfold toldM; rw [if_neg (by omega), if_neg (by omega), if_neg (by omega), ha, show i = nv from (by omega)]) rfl dX6_signTold_77
        · skip
          have c49 : ¬ nv ≤ i := fun h => c49 ((nI_leI (a := nv) (b := i) (by omega) (by omega)).mpr h)
          refine lv_iload_n hx hb dX6_signTold_52 rfl (lv_at hl 1 rfl) ?_
          refine lv_aload_n hx hb dX6_signTold_53 rfl (lv_at hl 4 rfl) ?_
          refine pg_get (C := RX6) (T := TX6) (N := 10) hx hb hts hi_X6 hown hK hP hL_mh hf_mh rfl 8 (by decide) (hts (.fieldLink RX6 28 "BarometerLeagueModel" "now" "LBarometerLeagueModel$State;") (by decide +kernel)) (fun _ h9 => h9) rfl dX6_signTold_54 ?_
          refine pg_getN (C := RX5) (T := TX5) (N := 6) hx hb hts hi_X5 hown hK hP hL_nw hf_nw rfl 5 (by decide) (hK.nest 12 rfl) (fun _ h9 => h9) rfl dX6_signTold_57 ?_
          refine lv_bipush (v := 8) hx hb dX6_signTold_60 (by decide) ?_
          refine lv_iload hx hb dX6_signTold_62 (lv_at hl 0 rfl) ?_
          refine lv_imul hx hb dX6_signTold_64 ?_
          refine lv_topi (fun v64 ev64 => ?_)
          refine lv_iload_n hx hb dX6_signTold_65 rfl (lv_at hl 3 rfl) ?_
          refine lv_iadd hx hb dX6_signTold_66 ?_
          refine lv_topi (fun v66 ev66 => ?_)
          refine pn_iald (j := 8 * i + j) hx hb hK hP hL_nwt hf_nwt (ev66.trans (nat_add (ev64.trans (nat_mul rfl rfl)) rfl)) (by omega) (Nat.lt_of_lt_of_le (m := 100) (by omega) (by omega)) dX6_signTold_67 ?_
          refine lv_iadd hx hb dX6_signTold_68 ?_
          refine lv_topi (fun v68 ev68 => ?_)
          refine lv_istore_n (lv' := [(3, .int v68), (4, .int (nI i)), (2, .int (nI k)), (1, .int (nI j)), (0, .ref mh)]) hx hb dX6_signTold_69 rfl hl (by decide) rfl (fun ls hl => ?_)
          refine lv_iinc (v := nI (i + 1)) (lv' := [(4, .int (nI (i + 1))), (3, .int v68), (2, .int (nI k)), (1, .int (nI j)), (0, .ref mh)]) hx hb dX6_signTold_70 hl (k := 1) rfl (nI_1 _) (by decide) rfl (fun ls hl => ?_)
          refine lv_goto (tgt := 43) hx hb dX6_signTold_73 (by decide) ?_
          exact ih43 (i + 1) v68 (by omega) (by omega) (sumN_s ha ev68) ls (lv_sub hl [0, 1, 2, 3, 4] rfl)
    exact K43 _ 0 0 (Nat.lt_succ_self _) (Nat.zero_le _) (rfl) ls (lv_sub hl [0, 1, 4, 3, 2] rfl)
  · skip
    have c2 : ¬ 3 ≤ k := fun h => c2 ((nI_leI (a := 3) (b := k) (by omega) (by omega)).mpr h)
    refine lv_iload_n hx hb dX6_signTold_5 rfl (lv_at hl 2 rfl) ?_
    refine lv_if_ne (tgt := 18) hx hb dX6_signTold_6 (by decide) (fun c6 => ?_) (fun c6 => ?_)
    · skip
      have c6 : ¬ k = 0 := fun h => c6 ((nI_eq (a := k) (b := 0) (by omega) (by omega)).mpr h)
      refine lv_iload_n hx hb dX6_signTold_18 rfl (lv_at hl 2 rfl) ?_
      refine lv_iconst (v := 1) hx hb dX6_signTold_19 (by decide) ?_
      refine lv_icmp_ne (tgt := 32) hx hb dX6_signTold_20 (by decide) (fun c20 => ?_) (fun c20 => ?_)
      · skip
        have c20 : ¬ k = 1 := fun h => c20 ((nI_eq (a := k) (b := 1) (by omega) (by omega)).mpr h)
        refine lv_aload_n hx hb dX6_signTold_32 rfl (lv_at hl 0 rfl) ?_
        refine lv_iload_n hx hb dX6_signTold_33 rfl (lv_at hl 1 rfl) ?_
        refine ro_V (As := [.int (nI j)]) (rest := []) ⟨hx, hb, hml, hown, hts⟩ (m_X6_rightDays l g L f _ _ _ _ _ _ _ _ _ _ _ _ _ _ _ _ hL_mh hf_mh hL_mg hf_mg hL_mr hf_mr hL_mk hf_mk hL_mn hf_mn hj) (cwV 1 hts gX6_signTold_X6_rightDays rfl rfl rfl (by decide +kernel) ⟨Nat.le_of_ble_eq_true rfl, Nat.le_of_ble_eq_true rfl⟩) hK hP hL_mh hf_mh rfl rfl hl.1 rfl (Nat.le_of_ble_eq_true rfl) dX6_signTold_34 ⟨Nat.zero_le _, Nat.zero_le _⟩ (fun r34 hr34 => ?_)
        have hr34 : r34 = rightN (kd j) (nu j) gl rn 12 := hr34
        subst hr34
        exact hend (rightN (kd j) (nu j) gl rn 12) _ _ (by unfold toldM; rw [if_neg c6, if_neg c20, if_pos (by omega)]) rfl dX6_signTold_37
      · skip
        have c20 : k = 1 := (nI_eq (a := k) (b := 1) (by omega) (by omega)).mp (show nI k = nI 1 from c20)
        refine lv_aload_n hx hb dX6_signTold_23 rfl (lv_at hl 0 rfl) ?_
        refine pg_get (C := RX6) (T := TX6) (N := 10) hx hb hts hi_X6 hown hK hP hL_mh hf_mh rfl 5 (by decide) (hts (.fieldLink RX6 19 "BarometerLeagueModel" "number" "[I") (by decide +kernel)) (fun _ h9 => h9) rfl dX6_signTold_24 ?_
        refine lv_iload_n hx hb dX6_signTold_27 rfl (lv_at hl 1 rfl) ?_
        refine pn_iald (j := j) hx hb hK hP hL_mn hf_mn rfl (by omega) (Nat.lt_of_lt_of_le (m := 100) (by omega) (by omega)) dX6_signTold_28 ?_
        refine lv_goto (tgt := 37) hx hb dX6_signTold_29 (by decide) ?_
        exact hend (nu j) _ _ (by unfold toldM; rw [if_neg c6, if_pos c20]) rfl dX6_signTold_37
    · skip
      have c6 : k = 0 := (nI_eq (a := k) (b := 0) (by omega) (by omega)).mp (show nI k = nI 0 from c6)
      refine lv_aload_n hx hb dX6_signTold_9 rfl (lv_at hl 0 rfl) ?_
      refine pg_get (C := RX6) (T := TX6) (N := 10) hx hb hts hi_X6 hown hK hP hL_mh hf_mh rfl 4 (by decide) (hts (.fieldLink RX6 16 "BarometerLeagueModel" "kind" "[I") (by decide +kernel)) (fun _ h9 => h9) rfl dX6_signTold_10 ?_
      refine lv_iload_n hx hb dX6_signTold_13 rfl (lv_at hl 1 rfl) ?_
      refine pn_iald (j := j) hx hb hK hP hL_mk hf_mk rfl (by omega) (Nat.lt_of_lt_of_le (m := 100) (by omega) (by omega)) dX6_signTold_14 ?_
      refine lv_goto (tgt := 37) hx hb dX6_signTold_15 (by decide) ?_
      exact hend (kd j) _ _ (by unfold toldM; rw [if_pos c6]) rfl dX6_signTold_37

set_option maxHeartbeats 4000000 in
set_option maxRecDepth 100000 in
theorem m_X6_villageTold (l : Launch) (g : GG) (L : List Nat) (f : Nat → va_E) (sz : Nat) (hN : L.Nodup) (mh mg mr mk mn ms ah n nv : Nat) (th : Int32) (gl rn kd nu sd : Nat → Int32) (nw np nc nr nwt d : Nat) (ht : Int32) (pt co ro wt : Nat → Int32) (v k : Nat) (hL_mh : mh ∈ L) (hf_mh : f mh = eO 7 [.int th, .ref mg, .ref mr, .int (nI n), .ref mk, .ref mn, .int (nI nv), .ref ms, .ref nw, .ref ah]) (hL_mg : mg ∈ L) (hf_mg : f mg = eI g 12 gl) (hL_mr : mr ∈ L) (hf_mr : f mr = eI g 12 rn) (hL_mk : mk ∈ L) (hf_mk : f mk = eI g 8 kd) (hL_mn : mn ∈ L) (hf_mn : f mn = eI g 8 nu) (hL_ms : ms ∈ L) (hf_ms : f ms = eI g 8 sd) (hL_nw : nw ∈ L) (hf_nw : f nw = eO 6 [.int (nI d), .int ht, .ref np, .ref nc, .ref nr, .ref nwt]) (hL_np : np ∈ L) (hf_np : f np = eI g 6 pt) (hL_nc : nc ∈ L) (hf_nc : f nc = eI g 6 co) (hL_nr : nr ∈ L) (hf_nr : f nr = eI g 6 ro) (hL_nwt : nwt ∈ L) (hf_nwt : f nwt = eI g 48 wt) (n_mk_ms : mk ≠ ms) (n_mn_ms : mn ≠ ms) (hn : n ≤ 8) (hnv : nv ≤ 6) (hd : d < 2 ^ 30) (hv : v < 6) (hk : k < 7) : RW l g yX6_villageTold wsX6_villageTold 2 46 L f sz [.ref mh, .int (nI v), .int (nI k)] (fun r f2 => r = aboutM (sdM kd nu gl rn n d sd) pt co ro wt n nv v k ∧ f2 ms = eI g 8 (sdM kd nu gl rn n d sd) ∧ Fr f f2 [ms]) := by
  refine RW.start (cc := cX6_villageTold) (maxL := 3) (ret := .int) (by decide +kernel) rfl (by simp [lg_sl, Value.category]) ?_
  intro p e s m args below meth c Q ls A hx hb hml hts hown hA hA2 hS hP hK hl hend
  have hl : lv_has ls 3 [(0, .ref mh), (1, .int (nI v)), (2, .int (nI k))] := hl
  have hi_X5 : ∀ w ∈ u_ws RX5 TX5 6, w ∈ wsX6_villageTold := by decide +kernel
  have hi_X6 : ∀ w ∈ u_ws RX6 TX6 10, w ∈ wsX6_villageTold := by decide +kernel
  have hFr : Fr f f [ms] := Fr.rf
  have n_mh_mg : mh ≠ mg := ne_e hf_mh hf_mg (by simp)
  have n_mh_mr : mh ≠ mr := ne_e hf_mh hf_mr (by simp)
  have n_mh_mk : mh ≠ mk := ne_e hf_mh hf_mk (by simp)
  have n_mh_mn : mh ≠ mn := ne_e hf_mh hf_mn (by simp)
  have n_mh_ms : mh ≠ ms := ne_e hf_mh hf_ms (by simp)
  have n_mh_nw : mh ≠ nw := ne_e hf_mh hf_nw (by simp)
  have n_mh_np : mh ≠ np := ne_e hf_mh hf_np (by simp)
  have n_mh_nc : mh ≠ nc := ne_e hf_mh hf_nc (by simp)
  have n_mh_nr : mh ≠ nr := ne_e hf_mh hf_nr (by simp)
  have n_mh_nwt : mh ≠ nwt := ne_e hf_mh hf_nwt (by simp)
  have n_mg_mk : mg ≠ mk := ne_e hf_mg hf_mk (by simp)
  have n_mg_mn : mg ≠ mn := ne_e hf_mg hf_mn (by simp)
  have n_mg_ms : mg ≠ ms := ne_e hf_mg hf_ms (by simp)
  have n_mg_nw : mg ≠ nw := ne_e hf_mg hf_nw (by simp)
  have n_mg_np : mg ≠ np := ne_e hf_mg hf_np (by simp)
  have n_mg_nc : mg ≠ nc := ne_e hf_mg hf_nc (by simp)
  have n_mg_nr : mg ≠ nr := ne_e hf_mg hf_nr (by simp)
  have n_mg_nwt : mg ≠ nwt := ne_e hf_mg hf_nwt (by simp)
  have n_mr_mk : mr ≠ mk := ne_e hf_mr hf_mk (by simp)
  have n_mr_mn : mr ≠ mn := ne_e hf_mr hf_mn (by simp)
  have n_mr_ms : mr ≠ ms := ne_e hf_mr hf_ms (by simp)
  have n_mr_nw : mr ≠ nw := ne_e hf_mr hf_nw (by simp)
  have n_mr_np : mr ≠ np := ne_e hf_mr hf_np (by simp)
  have n_mr_nc : mr ≠ nc := ne_e hf_mr hf_nc (by simp)
  have n_mr_nr : mr ≠ nr := ne_e hf_mr hf_nr (by simp)
  have n_mr_nwt : mr ≠ nwt := ne_e hf_mr hf_nwt (by simp)
  have n_mk_nw : mk ≠ nw := ne_e hf_mk hf_nw (by simp)
  have n_mk_np : mk ≠ np := ne_e hf_mk hf_np (by simp)
  have n_mk_nc : mk ≠ nc := ne_e hf_mk hf_nc (by simp)
  have n_mk_nr : mk ≠ nr := ne_e hf_mk hf_nr (by simp)
  have n_mk_nwt : mk ≠ nwt := ne_e hf_mk hf_nwt (by simp)
  have n_mn_nw : mn ≠ nw := ne_e hf_mn hf_nw (by simp)
  have n_mn_np : mn ≠ np := ne_e hf_mn hf_np (by simp)
  have n_mn_nc : mn ≠ nc := ne_e hf_mn hf_nc (by simp)
  have n_mn_nr : mn ≠ nr := ne_e hf_mn hf_nr (by simp)
  have n_mn_nwt : mn ≠ nwt := ne_e hf_mn hf_nwt (by simp)
  have n_ms_nw : ms ≠ nw := ne_e hf_ms hf_nw (by simp)
  have n_ms_np : ms ≠ np := ne_e hf_ms hf_np (by simp)
  have n_ms_nc : ms ≠ nc := ne_e hf_ms hf_nc (by simp)
  have n_ms_nr : ms ≠ nr := ne_e hf_ms hf_nr (by simp)
  have n_ms_nwt : ms ≠ nwt := ne_e hf_ms hf_nwt (by simp)
  have n_nw_np : nw ≠ np := ne_e hf_nw hf_np (by simp)
  have n_nw_nc : nw ≠ nc := ne_e hf_nw hf_nc (by simp)
  have n_nw_nr : nw ≠ nr := ne_e hf_nw hf_nr (by simp)
  have n_nw_nwt : nw ≠ nwt := ne_e hf_nw hf_nwt (by simp)
  have n_np_nwt : np ≠ nwt := ne_e hf_np hf_nwt (by simp)
  have n_nc_nwt : nc ≠ nwt := ne_e hf_nc hf_nwt (by simp)
  have n_nr_nwt : nr ≠ nwt := ne_e hf_nr hf_nwt (by simp)
  have h0f_mh := hf_mh
  have h0f_mg := hf_mg
  have h0f_mr := hf_mr
  have h0f_mk := hf_mk
  have h0f_mn := hf_mn
  have h0f_ms := hf_ms
  have h0f_nw := hf_nw
  have h0f_np := hf_np
  have h0f_nc := hf_nc
  have h0f_nr := hf_nr
  have h0f_nwt := hf_nwt
  refine lv_aload_n hx hb dX6_villageTold_0 rfl (lv_at hl 0 rfl) ?_
  refine lv_aload_n hx hb dX6_villageTold_1 rfl (lv_at hl 0 rfl) ?_
  refine pg_get (C := RX6) (T := TX6) (N := 10) hx hb hts hi_X6 hown hK hP hL_mh hf_mh rfl 8 (by decide) (hts (.fieldLink RX6 28 "BarometerLeagueModel" "now" "LBarometerLeagueModel$State;") (by decide +kernel)) (fun _ h9 => h9) rfl dX6_villageTold_2 ?_
  refine pg_getN (C := RX5) (T := TX5) (N := 6) hx hb hts hi_X5 hown hK hP hL_nw hf_nw rfl 0 (by decide) (hK.nest 7 rfl) (fun _ h9 => h9) rfl dX6_villageTold_5 ?_
  refine rv_V (As := [.int (nI d)]) (rest := []) ⟨hx, hb, hml, hown, hts⟩ (m_X6_look l g L f _ hN _ _ _ _ _ _ _ _ _ _ _ _ _ _ _ _ _ hL_mh hf_mh hL_mg hf_mg hL_mr hf_mr hL_mk hf_mk hL_mn hf_mn hL_ms hf_ms n_mk_ms n_mn_ms hn hd) (cwV 1 hts gX6_villageTold_X6_look rfl rfl rfl (by decide +kernel) ⟨Nat.le_of_ble_eq_true rfl, Nat.le_of_ble_eq_true rfl⟩) hK hP hA hA2 hS hL_mh hf_mh rfl rfl hl.1 rfl (Nat.le_of_ble_eq_true rfl) dX6_villageTold_8 ⟨Nat.zero_le _, Nat.zero_le _⟩ (fun f8 H locs hr8 hP hS => ?_)
  obtain ⟨hc8_0, hw8⟩ := hr8
  have hf_mh : f8 mh = eO 7 [.int th, .ref mg, .ref mr, .int (nI n), .ref mk, .ref mn, .int (nI nv), .ref ms, .ref nw, .ref ah] := hw8.get hf_mh (nm_c n_mh_ms (List.not_mem_nil))
  have hf_mg : f8 mg = eI g 12 gl := hw8.get hf_mg (nm_c n_mg_ms (List.not_mem_nil))
  have hf_mr : f8 mr = eI g 12 rn := hw8.get hf_mr (nm_c n_mr_ms (List.not_mem_nil))
  have hf_mk : f8 mk = eI g 8 kd := hw8.get hf_mk (nm_c n_mk_ms (List.not_mem_nil))
  have hf_mn : f8 mn = eI g 8 nu := hw8.get hf_mn (nm_c n_mn_ms (List.not_mem_nil))
  have hf_nw : f8 nw = eO 6 [.int (nI d), .int ht, .ref np, .ref nc, .ref nr, .ref nwt] := hw8.get hf_nw (nm_c n_ms_nw.symm (List.not_mem_nil))
  have hf_np : f8 np = eI g 6 pt := hw8.get hf_np (nm_c n_ms_np.symm (List.not_mem_nil))
  have hf_nc : f8 nc = eI g 6 co := hw8.get hf_nc (nm_c n_ms_nc.symm (List.not_mem_nil))
  have hf_nr : f8 nr = eI g 6 ro := hw8.get hf_nr (nm_c n_ms_nr.symm (List.not_mem_nil))
  have hf_nwt : f8 nwt = eI g 48 wt := hw8.get hf_nwt (nm_c n_ms_nwt.symm (List.not_mem_nil))
  have hf_ms : f8 ms = eI g 8 (sdM kd nu gl rn n d sd) := hc8_0
  replace hFr : Fr f f8 [ms] := hFr.tr hw8 (by simp)
  refine lv_iload_n hx hb dX6_villageTold_11 rfl (lv_at hl 2 rfl) ?_
  by_cases k12_0 : k = 0
  · have q : (nI k).toInt = 0 := by rw [k12_0]; rfl
    refine lv_tableIn (off := 40) (tgt := 52) hx hb dX6_villageTold_12 (by rw [q]; decide) (by rw [q]; decide) (by rw [q]; rfl) (by decide) ?_
    refine lv_aload_n hx hb dX6_villageTold_52 rfl (lv_at hl 0 rfl) ?_
    refine pg_get (C := RX6) (T := TX6) (N := 10) hx hb hts hi_X6 hown hK hP hL_mh hf_mh rfl 8 (by decide) (hts (.fieldLink RX6 28 "BarometerLeagueModel" "now" "LBarometerLeagueModel$State;") (by decide +kernel)) (fun _ h9 => h9) rfl dX6_villageTold_53 ?_
    refine pg_getN (C := RX5) (T := TX5) (N := 6) hx hb hts hi_X5 hown hK hP hL_nw hf_nw rfl 2 (by decide) (hK.nest 9 rfl) (fun _ h9 => h9) rfl dX6_villageTold_56 ?_
    refine lv_iload_n hx hb dX6_villageTold_59 rfl (lv_at hl 1 rfl) ?_
    refine pn_iald (j := v) hx hb hK hP hL_np hf_np rfl (by omega) (Nat.lt_of_lt_of_le (m := 100) (by omega) (by omega)) dX6_villageTold_60 ?_
    exact hend (pt v) f8 _ _ _ _ (⟨by unfold aboutM; rw [if_pos k12_0], hf_ms, hFr⟩) hP hS rfl dX6_villageTold_61
  have q12_0 : (nI k).toInt ≠ 0 := by rw [nI_toInt (by omega)]; omega
  by_cases k12_1 : k = 1
  · have q : (nI k).toInt = 1 := by rw [k12_1]; rfl
    refine lv_tableIn (off := 50) (tgt := 62) hx hb dX6_villageTold_12 (by rw [q]; decide) (by rw [q]; decide) (by rw [q]; rfl) (by decide) ?_
    refine lv_aload_n hx hb dX6_villageTold_62 rfl (lv_at hl 0 rfl) ?_
    refine pg_get (C := RX6) (T := TX6) (N := 10) hx hb hts hi_X6 hown hK hP hL_mh hf_mh rfl 8 (by decide) (hts (.fieldLink RX6 28 "BarometerLeagueModel" "now" "LBarometerLeagueModel$State;") (by decide +kernel)) (fun _ h9 => h9) rfl dX6_villageTold_63 ?_
    refine pg_getN (C := RX5) (T := TX5) (N := 6) hx hb hts hi_X5 hown hK hP hL_nw hf_nw rfl 3 (by decide) (hK.nest 10 rfl) (fun _ h9 => h9) rfl dX6_villageTold_66 ?_
    refine lv_iload_n hx hb dX6_villageTold_69 rfl (lv_at hl 1 rfl) ?_
    refine pn_iald (j := v) hx hb hK hP hL_nc hf_nc rfl (by omega) (Nat.lt_of_lt_of_le (m := 100) (by omega) (by omega)) dX6_villageTold_70 ?_
    exact hend (co v) f8 _ _ _ _ (⟨by unfold aboutM; rw [if_neg k12_0, if_pos k12_1], hf_ms, hFr⟩) hP hS rfl dX6_villageTold_71
  have q12_1 : (nI k).toInt ≠ 1 := by rw [nI_toInt (by omega)]; omega
  by_cases k12_2 : k = 2
  · have q : (nI k).toInt = 2 := by rw [k12_2]; rfl
    refine lv_tableIn (off := 60) (tgt := 72) hx hb dX6_villageTold_12 (by rw [q]; decide) (by rw [q]; decide) (by rw [q]; rfl) (by decide) ?_
    refine lv_aload_n hx hb dX6_villageTold_72 rfl (lv_at hl 0 rfl) ?_
    refine pg_get (C := RX6) (T := TX6) (N := 10) hx hb hts hi_X6 hown hK hP hL_mh hf_mh rfl 8 (by decide) (hts (.fieldLink RX6 28 "BarometerLeagueModel" "now" "LBarometerLeagueModel$State;") (by decide +kernel)) (fun _ h9 => h9) rfl dX6_villageTold_73 ?_
    refine pg_getN (C := RX5) (T := TX5) (N := 6) hx hb hts hi_X5 hown hK hP hL_nw hf_nw rfl 4 (by decide) (hK.nest 11 rfl) (fun _ h9 => h9) rfl dX6_villageTold_76 ?_
    refine lv_iload_n hx hb dX6_villageTold_79 rfl (lv_at hl 1 rfl) ?_
    refine pn_iald (j := v) hx hb hK hP hL_nr hf_nr rfl (by omega) (Nat.lt_of_lt_of_le (m := 100) (by omega) (by omega)) dX6_villageTold_80 ?_
    exact hend (ro v) f8 _ _ _ _ (⟨by unfold aboutM; rw [if_neg k12_0, if_neg k12_1, if_pos k12_2], hf_ms, hFr⟩) hP hS rfl dX6_villageTold_81
  have q12_2 : (nI k).toInt ≠ 2 := by rw [nI_toInt (by omega)]; omega
  by_cases k12_3 : k = 3
  · have q : (nI k).toInt = 3 := by rw [k12_3]; rfl
    refine lv_tableIn (off := 70) (tgt := 82) hx hb dX6_villageTold_12 (by rw [q]; decide) (by rw [q]; decide) (by rw [q]; rfl) (by decide) ?_
    refine lv_aload_n hx hb dX6_villageTold_82 rfl (lv_at hl 0 rfl) ?_
    refine lv_iload_n hx hb dX6_villageTold_83 rfl (lv_at hl 1 rfl) ?_
    refine ro_V (As := [.int (nI v)]) (rest := []) ⟨hx, hb, hml, hown, hts⟩ (m_X6_weightsOf l g L f8 _ _ _ _ _ _ _ _ _ _ _ _ _ _ _ _ _ _ _ hL_mh hf_mh hL_nw hf_nw hL_nwt hf_nwt hn hv) (cwV 1 hts gX6_villageTold_X6_weightsOf rfl rfl rfl (by decide +kernel) ⟨Nat.le_of_ble_eq_true rfl, Nat.le_of_ble_eq_true rfl⟩) hK hP hL_mh hf_mh rfl rfl hl.1 rfl (Nat.le_of_ble_eq_true rfl) dX6_villageTold_84 ⟨Nat.zero_le _, Nat.zero_le _⟩ (fun r84 hr84 => ?_)
    have hr84 : r84 = sumN (fun j => wt (8 * v + j)) n := hr84
    subst hr84
    exact hend (sumN (fun j => wt (8 * v + j)) n) f8 _ _ _ _ (⟨by unfold aboutM; rw [if_neg k12_0, if_neg k12_1, if_neg k12_2, if_pos k12_3], hf_ms, hFr⟩) hP hS rfl dX6_villageTold_87
  have q12_3 : (nI k).toInt ≠ 3 := by rw [nI_toInt (by omega)]; omega
  by_cases k12_4 : k = 4
  · have q : (nI k).toInt = 4 := by rw [k12_4]; rfl
    refine lv_tableIn (off := 76) (tgt := 88) hx hb dX6_villageTold_12 (by rw [q]; decide) (by rw [q]; decide) (by rw [q]; rfl) (by decide) ?_
    refine lv_aload_n hx hb dX6_villageTold_88 rfl (lv_at hl 0 rfl) ?_
    refine lv_iload_n hx hb dX6_villageTold_89 rfl (lv_at hl 1 rfl) ?_
    refine ro_V (As := [.int (nI v)]) (rest := []) ⟨hx, hb, hml, hown, hts⟩ (m_X6_placeOf l g L f8 _ _ _ _ _ _ _ _ _ _ _ _ _ _ _ _ _ _ _ _ hL_mh hf_mh hL_nw hf_nw hL_np hf_np hL_nc hf_nc hnv hv) (cwV 1 hts gX6_villageTold_X6_placeOf rfl rfl rfl (by decide +kernel) ⟨Nat.le_of_ble_eq_true rfl, Nat.le_of_ble_eq_true rfl⟩) hK hP hL_mh hf_mh rfl rfl hl.1 rfl (Nat.le_of_ble_eq_true rfl) dX6_villageTold_90 ⟨Nat.zero_le _, Nat.zero_le _⟩ (fun r90 hr90 => ?_)
    have hr90 : r90 = placeM pt co nv v := hr90
    subst hr90
    exact hend (placeM pt co nv v) f8 _ _ _ _ (⟨by unfold aboutM; rw [if_neg k12_0, if_neg k12_1, if_neg k12_2, if_neg k12_3, if_pos k12_4], hf_ms, hFr⟩) hP hS rfl dX6_villageTold_93
  have q12_4 : (nI k).toInt ≠ 4 := by rw [nI_toInt (by omega)]; omega
  by_cases k12_5 : k = 5
  · have q : (nI k).toInt = 5 := by rw [k12_5]; rfl
    refine lv_tableIn (off := 82) (tgt := 94) hx hb dX6_villageTold_12 (by rw [q]; decide) (by rw [q]; decide) (by rw [q]; rfl) (by decide) ?_
    refine lv_aload_n hx hb dX6_villageTold_94 rfl (lv_at hl 0 rfl) ?_
    refine lv_aload_n hx hb dX6_villageTold_95 rfl (lv_at hl 0 rfl) ?_
    refine pg_get (C := RX6) (T := TX6) (N := 10) hx hb hts hi_X6 hown hK hP hL_mh hf_mh rfl 8 (by decide) (hts (.fieldLink RX6 28 "BarometerLeagueModel" "now" "LBarometerLeagueModel$State;") (by decide +kernel)) (fun _ h9 => h9) rfl dX6_villageTold_96 ?_
    refine lv_iload_n hx hb dX6_villageTold_99 rfl (lv_at hl 1 rfl) ?_
    refine ro_V (As := [.ref nw, .int (nI v)]) (rest := []) ⟨hx, hb, hml, hown, hts⟩ (m_X6_lean l g L f8 _ _ _ _ _ _ _ _ _ _ _ _ _ _ _ _ _ _ _ _ _ hL_mh hf_mh hL_ms hf_ms hL_nw hf_nw hL_nwt hf_nwt hn hv) (cwV 2 hts gX6_villageTold_X6_lean rfl rfl rfl (by decide +kernel) ⟨Nat.le_of_ble_eq_true rfl, Nat.le_of_ble_eq_true rfl⟩) hK hP hL_mh hf_mh rfl rfl hl.1 rfl (Nat.le_of_ble_eq_true rfl) dX6_villageTold_100 ⟨Nat.zero_le _, Nat.zero_le _⟩ (fun r100 hr100 => ?_)
    have hr100 : r100 = leanN (sdM kd nu gl rn n d sd) wt v n := hr100
    subst hr100
    refine lv_if_le (tgt := 110) hx hb dX6_villageTold_103 (by decide) (fun c103 => ?_) (fun c103 => ?_)
    · skip
      refine lv_iconst (v := 0) hx hb dX6_villageTold_110 (by decide) ?_
      exact hend (0) f8 _ _ _ _ (⟨by unfold aboutM; rw [if_neg k12_0, if_neg k12_1, if_neg k12_2, if_neg k12_3, if_neg k12_4, if_pos k12_5]; exact bf rfl (Int32.not_lt.mpr c103), hf_ms, hFr⟩) hP hS rfl dX6_villageTold_111
    · skip
      refine lv_iconst (v := 1) hx hb dX6_villageTold_106 (by decide) ?_
      refine lv_goto (tgt := 111) hx hb dX6_villageTold_107 (by decide) ?_
      exact hend (1) f8 _ _ _ _ (⟨by unfold aboutM; rw [if_neg k12_0, if_neg k12_1, if_neg k12_2, if_neg k12_3, if_neg k12_4, if_pos k12_5]; exact bt rfl (Int32.not_le.mp c103), hf_ms, hFr⟩) hP hS rfl dX6_villageTold_111
  have q12_5 : (nI k).toInt ≠ 5 := by rw [nI_toInt (by omega)]; omega
  refine lv_tableOut (tgt := 112) hx hb dX6_villageTold_12 (by omega) (by decide) ?_
  refine lv_aload_n hx hb dX6_villageTold_112 rfl (lv_at hl 0 rfl) ?_
  refine lv_aload_n hx hb dX6_villageTold_113 rfl (lv_at hl 0 rfl) ?_
  refine pg_get (C := RX6) (T := TX6) (N := 10) hx hb hts hi_X6 hown hK hP hL_mh hf_mh rfl 8 (by decide) (hts (.fieldLink RX6 28 "BarometerLeagueModel" "now" "LBarometerLeagueModel$State;") (by decide +kernel)) (fun _ h9 => h9) rfl dX6_villageTold_114 ?_
  refine lv_iload_n hx hb dX6_villageTold_117 rfl (lv_at hl 1 rfl) ?_
  refine ro_V (As := [.ref nw, .int (nI v)]) (rest := []) ⟨hx, hb, hml, hown, hts⟩ (m_X6_lean l g L f8 _ _ _ _ _ _ _ _ _ _ _ _ _ _ _ _ _ _ _ _ _ hL_mh hf_mh hL_ms hf_ms hL_nw hf_nw hL_nwt hf_nwt hn hv) (cwV 2 hts gX6_villageTold_X6_lean rfl rfl rfl (by decide +kernel) ⟨Nat.le_of_ble_eq_true rfl, Nat.le_of_ble_eq_true rfl⟩) hK hP hL_mh hf_mh rfl rfl hl.1 rfl (Nat.le_of_ble_eq_true rfl) dX6_villageTold_118 ⟨Nat.zero_le _, Nat.zero_le _⟩ (fun r118 hr118 => ?_)
  have hr118 : r118 = leanN (sdM kd nu gl rn n d sd) wt v n := hr118
  subst hr118
  exact hend (leanN (sdM kd nu gl rn n d sd) wt v n) f8 _ _ _ _ (⟨by unfold aboutM; rw [if_neg k12_0, if_neg k12_1, if_neg k12_2, if_neg k12_3, if_neg k12_4, if_neg k12_5], hf_ms, hFr⟩) hP hS rfl dX6_villageTold_121

set_option maxHeartbeats 4000000 in
set_option maxRecDepth 100000 in
theorem m_X6_counted (l : Launch) (g : GG) (L : List Nat) (f : Nat → va_E) (sz : Nat) (hN : L.Nodup) (mh mg mr mk mn ms nw ah n nv : Nat) (th : Int32)(oh op oc orr ow d : Nat) (ht : Int32) (gl rn kd nu sd pt co wt : Nat → Int32) (k : Nat) (hL_mh : mh ∈ L) (hf_mh : f mh = eO 7 [.int th, .ref mg, .ref mr, .int (nI n), .ref mk, .ref mn, .int (nI nv), .ref ms, .ref nw, .ref ah]) (hL_mg : mg ∈ L) (hf_mg : f mg = eI g 12 gl) (hL_mr : mr ∈ L) (hf_mr : f mr = eI g 12 rn) (hL_mk : mk ∈ L) (hf_mk : f mk = eI g 8 kd) (hL_mn : mn ∈ L) (hf_mn : f mn = eI g 8 nu) (hL_ms : ms ∈ L) (hf_ms : f ms = eI g 8 sd) (hL_oh : oh ∈ L) (hf_oh : f oh = eO 6 [.int (nI d), .int ht, .ref op, .ref oc, .ref orr, .ref ow]) (hL_op : op ∈ L) (hf_op : f op = eI g 6 pt) (hL_oc : oc ∈ L) (hf_oc : f oc = eI g 6 co) (hL_ow : ow ∈ L) (hf_ow : f ow = eI g 48 wt) (n_mk_ms : mk ≠ ms) (n_mn_ms : mn ≠ ms) (hn : n ≤ 8) (hnv : nv ≤ 6) (hd : d < 2 ^ 30) (hk : k < 7) : RW l g yX6_counted wsX6_counted 3 69 L f sz [.ref mh, .ref oh, .int (nI k)] (fun r f2 => r = countM (sdM kd nu gl rn n d sd) pt co rn wt n nv d k ∧ f2 ms = eI g 8 (if k = 5 then sdM kd nu gl rn n d sd else sd) ∧ Fr f f2 [ms]) := by
  refine RW.start (cc := cX6_counted) (maxL := 5) (ret := .int) (by decide +kernel) rfl (by simp [lg_sl, Value.category]) ?_
  intro p e s m args below meth c Q ls A hx hb hml hts hown hA hA2 hS hP hK hl hend
  have hl : lv_has ls 5 [(0, .ref mh), (1, .ref oh), (2, .int (nI k))] := hl
  have hi_X5 : ∀ w ∈ u_ws RX5 TX5 6, w ∈ wsX6_counted := by decide +kernel
  have hi_X6 : ∀ w ∈ u_ws RX6 TX6 10, w ∈ wsX6_counted := by decide +kernel
  have hFr : Fr f f [ms] := Fr.rf
  have n_mh_mg : mh ≠ mg := ne_e hf_mh hf_mg (by simp)
  have n_mh_mr : mh ≠ mr := ne_e hf_mh hf_mr (by simp)
  have n_mh_mk : mh ≠ mk := ne_e hf_mh hf_mk (by simp)
  have n_mh_mn : mh ≠ mn := ne_e hf_mh hf_mn (by simp)
  have n_mh_ms : mh ≠ ms := ne_e hf_mh hf_ms (by simp)
  have n_mh_oh : mh ≠ oh := ne_e hf_mh hf_oh (by simp)
  have n_mh_op : mh ≠ op := ne_e hf_mh hf_op (by simp)
  have n_mh_oc : mh ≠ oc := ne_e hf_mh hf_oc (by simp)
  have n_mh_ow : mh ≠ ow := ne_e hf_mh hf_ow (by simp)
  have n_mg_mk : mg ≠ mk := ne_e hf_mg hf_mk (by simp)
  have n_mg_mn : mg ≠ mn := ne_e hf_mg hf_mn (by simp)
  have n_mg_ms : mg ≠ ms := ne_e hf_mg hf_ms (by simp)
  have n_mg_oh : mg ≠ oh := ne_e hf_mg hf_oh (by simp)
  have n_mg_op : mg ≠ op := ne_e hf_mg hf_op (by simp)
  have n_mg_oc : mg ≠ oc := ne_e hf_mg hf_oc (by simp)
  have n_mg_ow : mg ≠ ow := ne_e hf_mg hf_ow (by simp)
  have n_mr_mk : mr ≠ mk := ne_e hf_mr hf_mk (by simp)
  have n_mr_mn : mr ≠ mn := ne_e hf_mr hf_mn (by simp)
  have n_mr_ms : mr ≠ ms := ne_e hf_mr hf_ms (by simp)
  have n_mr_oh : mr ≠ oh := ne_e hf_mr hf_oh (by simp)
  have n_mr_op : mr ≠ op := ne_e hf_mr hf_op (by simp)
  have n_mr_oc : mr ≠ oc := ne_e hf_mr hf_oc (by simp)
  have n_mr_ow : mr ≠ ow := ne_e hf_mr hf_ow (by simp)
  have n_mk_oh : mk ≠ oh := ne_e hf_mk hf_oh (by simp)
  have n_mk_op : mk ≠ op := ne_e hf_mk hf_op (by simp)
  have n_mk_oc : mk ≠ oc := ne_e hf_mk hf_oc (by simp)
  have n_mk_ow : mk ≠ ow := ne_e hf_mk hf_ow (by simp)
  have n_mn_oh : mn ≠ oh := ne_e hf_mn hf_oh (by simp)
  have n_mn_op : mn ≠ op := ne_e hf_mn hf_op (by simp)
  have n_mn_oc : mn ≠ oc := ne_e hf_mn hf_oc (by simp)
  have n_mn_ow : mn ≠ ow := ne_e hf_mn hf_ow (by simp)
  have n_ms_oh : ms ≠ oh := ne_e hf_ms hf_oh (by simp)
  have n_ms_op : ms ≠ op := ne_e hf_ms hf_op (by simp)
  have n_ms_oc : ms ≠ oc := ne_e hf_ms hf_oc (by simp)
  have n_ms_ow : ms ≠ ow := ne_e hf_ms hf_ow (by simp)
  have n_oh_op : oh ≠ op := ne_e hf_oh hf_op (by simp)
  have n_oh_oc : oh ≠ oc := ne_e hf_oh hf_oc (by simp)
  have n_oh_ow : oh ≠ ow := ne_e hf_oh hf_ow (by simp)
  have n_op_ow : op ≠ ow := ne_e hf_op hf_ow (by simp)
  have n_oc_ow : oc ≠ ow := ne_e hf_oc hf_ow (by simp)
  have h0f_mh := hf_mh
  have h0f_mg := hf_mg
  have h0f_mr := hf_mr
  have h0f_mk := hf_mk
  have h0f_mn := hf_mn
  have h0f_ms := hf_ms
  have h0f_oh := hf_oh
  have h0f_op := hf_op
  have h0f_oc := hf_oc
  have h0f_ow := hf_ow
  refine lv_iconst (v := 0) hx hb dX6_counted_0 (by decide) ?_
  refine lv_istore_n (lv' := [(3, .int 0), (0, .ref mh), (1, .ref oh), (2, .int (nI k))]) hx hb dX6_counted_1 rfl hl (by decide) rfl (fun ls hl => ?_)
  refine lv_iload_n hx hb dX6_counted_2 rfl (lv_at hl 3 rfl) ?_
  by_cases k3_0 : k = 0
  · have q : (nI k).toInt = 0 := by rw [k3_0]; rfl
    refine lv_tableIn (off := 37) (tgt := 40) hx hb dX6_counted_3 (by rw [q]; decide) (by rw [q]; decide) (by rw [q]; rfl) (by decide) ?_
    refine lv_aload_n hx hb dX6_counted_40 rfl (lv_at hl 2 rfl) ?_
    refine pg_getN (C := RX5) (T := TX5) (N := 6) hx hb hts hi_X5 hown hK hP hL_oh hf_oh rfl 0 (by decide) (hK.nest 7 rfl) (fun _ h9 => h9) rfl dX6_counted_41 ?_
    exact hend (nI d) f _ _ _ _ (⟨by unfold countM; rw [if_pos k3_0], by rw [if_neg (by omega)]; exact hf_ms, hFr⟩) hP hS rfl dX6_counted_44
  have q3_0 : (nI k).toInt ≠ 0 := by rw [nI_toInt (by omega)]; omega
  by_cases k3_1 : k = 1
  · have q : (nI k).toInt = 1 := by rw [k3_1]; rfl
    refine lv_tableIn (off := 42) (tgt := 45) hx hb dX6_counted_3 (by rw [q]; decide) (by rw [q]; decide) (by rw [q]; rfl) (by decide) ?_
    refine lv_aload_n hx hb dX6_counted_45 rfl (lv_at hl 1 rfl) ?_
    refine pg_get (C := RX6) (T := TX6) (N := 10) hx hb hts hi_X6 hown hK hP hL_mh hf_mh rfl 3 (by decide) (hts (.fieldLink RX6 45 "BarometerLeagueModel" "signs" "I") (by decide +kernel)) (fun _ h9 => h9) rfl dX6_counted_46 ?_
    exact hend (nI n) f _ _ _ _ (⟨by unfold countM; rw [if_neg k3_0, if_pos k3_1], by rw [if_neg (by omega)]; exact hf_ms, hFr⟩) hP hS rfl dX6_counted_49
  have q3_1 : (nI k).toInt ≠ 1 := by rw [nI_toInt (by omega)]; omega
  by_cases k3_2 : k = 2
  · have q : (nI k).toInt = 2 := by rw [k3_2]; rfl
    refine lv_tableIn (off := 47) (tgt := 50) hx hb dX6_counted_3 (by rw [q]; decide) (by rw [q]; decide) (by rw [q]; rfl) (by decide) ?_
    refine lv_aload_n hx hb dX6_counted_50 rfl (lv_at hl 1 rfl) ?_
    refine pg_get (C := RX6) (T := TX6) (N := 10) hx hb hts hi_X6 hown hK hP hL_mh hf_mh rfl 6 (by decide) (hts (.fieldLink RX6 52 "BarometerLeagueModel" "villages" "I") (by decide +kernel)) (fun _ h9 => h9) rfl dX6_counted_51 ?_
    exact hend (nI nv) f _ _ _ _ (⟨by unfold countM; rw [if_neg k3_0, if_neg k3_1, if_pos k3_2], by rw [if_neg (by omega)]; exact hf_ms, hFr⟩) hP hS rfl dX6_counted_54
  have q3_2 : (nI k).toInt ≠ 2 := by rw [nI_toInt (by omega)]; omega
  by_cases k3_3 : k = 3
  · have q : (nI k).toInt = 3 := by rw [k3_3]; rfl
    refine lv_tableIn (off := 52) (tgt := 55) hx hb dX6_counted_3 (by rw [q]; decide) (by rw [q]; decide) (by rw [q]; rfl) (by decide) ?_
    refine lv_aload_n hx hb dX6_counted_55 rfl (lv_at hl 1 rfl) ?_
    refine lv_aload_n hx hb dX6_counted_56 rfl (lv_at hl 2 rfl) ?_
    refine pg_getN (C := RX5) (T := TX5) (N := 6) hx hb hts hi_X5 hown hK hP hL_oh hf_oh rfl 2 (by decide) (hK.nest 9 rfl) (fun _ h9 => h9) rfl dX6_counted_57 ?_
    refine ro_V (As := [.ref op]) (rest := []) ⟨hx, hb, hml, hown, hts⟩ (m_X6_sumOf l g L f _ _ _ _ _ _ _ _ _ _ _ _ _ hL_mh hf_mh hL_op hf_op hnv) (cwV 1 hts gX6_counted_X6_sumOf rfl rfl rfl (by decide +kernel) ⟨Nat.le_of_ble_eq_true rfl, Nat.le_of_ble_eq_true rfl⟩) hK hP hL_mh hf_mh rfl rfl hl.1 rfl (Nat.le_of_ble_eq_true rfl) dX6_counted_60 ⟨Nat.zero_le _, Nat.zero_le _⟩ (fun r60 hr60 => ?_)
    have hr60 : r60 = sumN pt nv := hr60
    subst hr60
    exact hend (sumN pt nv) f _ _ _ _ (⟨by unfold countM; rw [if_neg k3_0, if_neg k3_1, if_neg k3_2, if_pos k3_3], by rw [if_neg (by omega)]; exact hf_ms, hFr⟩) hP hS rfl dX6_counted_63
  have q3_3 : (nI k).toInt ≠ 3 := by rw [nI_toInt (by omega)]; omega
  by_cases k3_4 : k = 4
  · have q : (nI k).toInt = 4 := by rw [k3_4]; rfl
    refine lv_tableIn (off := 61) (tgt := 64) hx hb dX6_counted_3 (by rw [q]; decide) (by rw [q]; decide) (by rw [q]; rfl) (by decide) ?_
    refine lv_aload_n hx hb dX6_counted_64 rfl (lv_at hl 1 rfl) ?_
    refine lv_aload_n hx hb dX6_counted_65 rfl (lv_at hl 2 rfl) ?_
    refine pg_getN (C := RX5) (T := TX5) (N := 6) hx hb hts hi_X5 hown hK hP hL_oh hf_oh rfl 3 (by decide) (hK.nest 10 rfl) (fun _ h9 => h9) rfl dX6_counted_66 ?_
    refine ro_V (As := [.ref oc]) (rest := []) ⟨hx, hb, hml, hown, hts⟩ (m_X6_sumOf l g L f _ _ _ _ _ _ _ _ _ _ _ _ _ hL_mh hf_mh hL_oc hf_oc hnv) (cwV 1 hts gX6_counted_X6_sumOf rfl rfl rfl (by decide +kernel) ⟨Nat.le_of_ble_eq_true rfl, Nat.le_of_ble_eq_true rfl⟩) hK hP hL_mh hf_mh rfl rfl hl.1 rfl (Nat.le_of_ble_eq_true rfl) dX6_counted_69 ⟨Nat.zero_le _, Nat.zero_le _⟩ (fun r69 hr69 => ?_)
    have hr69 : r69 = sumN co nv := hr69
    subst hr69
    exact hend (sumN co nv) f _ _ _ _ (⟨by unfold countM; rw [if_neg k3_0, if_neg k3_1, if_neg k3_2, if_neg k3_3, if_pos k3_4], by rw [if_neg (by omega)]; exact hf_ms, hFr⟩) hP hS rfl dX6_counted_72
  have q3_4 : (nI k).toInt ≠ 4 := by rw [nI_toInt (by omega)]; omega
  by_cases k3_5 : k = 5
  · have q : (nI k).toInt = 5 := by rw [k3_5]; rfl
    refine lv_tableIn (off := 70) (tgt := 73) hx hb dX6_counted_3 (by rw [q]; decide) (by rw [q]; decide) (by rw [q]; rfl) (by decide) ?_
    refine lv_aload_n hx hb dX6_counted_73 rfl (lv_at hl 1 rfl) ?_
    refine lv_aload_n hx hb dX6_counted_74 rfl (lv_at hl 2 rfl) ?_
    refine rw_V (As := [.ref oh]) (rest := []) ⟨hx, hb, hml, hown, hts⟩ (m_X6_rainGuessed l g L f _ hN _ _ _ _ _ _ _ _ _ _ _ _ _ _ _ _ _ _ _ _ _ _ _ _ hL_mh hf_mh hL_mg hf_mg hL_mr hf_mr hL_mk hf_mk hL_mn hf_mn hL_ms hf_ms hL_oh hf_oh hL_ow hf_ow n_mk_ms n_mn_ms hn hnv hd) (cwV 1 hts gX6_counted_X6_rainGuessed rfl rfl rfl (by decide +kernel) ⟨Nat.le_of_ble_eq_true rfl, Nat.le_of_ble_eq_true rfl⟩) hK hP hA hA2 hS hL_mh hf_mh rfl rfl hl.1 rfl (Nat.le_of_ble_eq_true rfl) dX6_counted_75 ⟨Nat.zero_le _, Nat.zero_le _⟩ (fun r75 f75 H locs hr75 hP hS => ?_)
    obtain ⟨hv75, hc75_0, hw75⟩ := hr75
    have hf_mh : f75 mh = eO 7 [.int th, .ref mg, .ref mr, .int (nI n), .ref mk, .ref mn, .int (nI nv), .ref ms, .ref nw, .ref ah] := hw75.get hf_mh (nm_c n_mh_ms (List.not_mem_nil))
    have hf_mg : f75 mg = eI g 12 gl := hw75.get hf_mg (nm_c n_mg_ms (List.not_mem_nil))
    have hf_mr : f75 mr = eI g 12 rn := hw75.get hf_mr (nm_c n_mr_ms (List.not_mem_nil))
    have hf_mk : f75 mk = eI g 8 kd := hw75.get hf_mk (nm_c n_mk_ms (List.not_mem_nil))
    have hf_mn : f75 mn = eI g 8 nu := hw75.get hf_mn (nm_c n_mn_ms (List.not_mem_nil))
    have hf_oh : f75 oh = eO 6 [.int (nI d), .int ht, .ref op, .ref oc, .ref orr, .ref ow] := hw75.get hf_oh (nm_c n_ms_oh.symm (List.not_mem_nil))
    have hf_op : f75 op = eI g 6 pt := hw75.get hf_op (nm_c n_ms_op.symm (List.not_mem_nil))
    have hf_oc : f75 oc = eI g 6 co := hw75.get hf_oc (nm_c n_ms_oc.symm (List.not_mem_nil))
    have hf_ow : f75 ow = eI g 48 wt := hw75.get hf_ow (nm_c n_ms_ow.symm (List.not_mem_nil))
    have hf_ms : f75 ms = eI g 8 (sdM kd nu gl rn n d sd) := hc75_0
    replace hFr : Fr f f75 [ms] := hFr.tr hw75 (by simp)
    exact hend (r75) f75 _ _ _ _ (⟨by unfold countM; rw [if_neg k3_0, if_neg k3_1, if_neg k3_2, if_neg k3_3, if_neg k3_4, if_pos k3_5]; exact hv75, by rw [if_pos k3_5]; exact hf_ms, hFr⟩) hP hS rfl dX6_counted_78
  have q3_5 : (nI k).toInt ≠ 5 := by rw [nI_toInt (by omega)]; omega
  refine lv_tableOut (tgt := 79) hx hb dX6_counted_3 (by omega) (by decide) ?_
  refine lv_iconst (v := 0) hx hb dX6_counted_79 (by decide) ?_
  refine lv_istore (lv' := [(4, .int 0), (3, .int 0), (0, .ref mh), (1, .ref oh), (2, .int (nI k))]) hx hb dX6_counted_80 hl (by decide) rfl (fun ls hl => ?_)
  have K82 : ∀ (n82 : Nat) (i : Nat) (acc : Int32), 12 - i < n82 → i ≤ 12 → acc = sumN rn i → ∀ (ls : Array Slot), lv_has ls 5 [(4, .int (nI i)), (3, .int acc), (2, .int (nI k)), (1, .ref oh), (0, .ref mh)] → W p l e ({ frames := 3, cells := 0, slots := 0, locals := 69 } : Room) s m args below meth c s.heap [] 0 0 Q (F0 m 82 ls []) := by
    intro n82
    induction n82 with
    | zero => intros; omega
    | succ n82 ih82 =>
      intro i acc hm82 hi ha ls hl
      refine lv_iload hx hb dX6_counted_82 (lv_at hl 0 rfl) ?_
      refine lv_bipush (v := 12) hx hb dX6_counted_84 (by decide) ?_
      refine lv_icmp_ge (tgt := 105) hx hb dX6_counted_86 (by decide) (fun c86 => ?_) (fun c86 => ?_)
      · skip
        have c86 : 12 ≤ i := (nI_leI (a := 12) (b := i) (by omega) (by omega)).mp (show nI 12 ≤ nI i from c86)
        refine lv_iload_n hx hb dX6_counted_105 rfl (lv_at hl 1 rfl) ?_
        exact hend (acc) f _ _ _ _ (⟨by unfold countM; rw [if_neg k3_0, if_neg k3_1, if_neg k3_2, if_neg k3_3, if_neg k3_4, if_neg k3_5]; rw [ha, show i = 12 from (by omega)], by rw [if_neg (by omega)]; exact hf_ms, hFr⟩) hP hS rfl dX6_counted_106
      · skip
        have c86 : ¬ 12 ≤ i := fun h => c86 ((nI_leI (a := 12) (b := i) (by omega) (by omega)).mpr h)
        refine lv_iload_n hx hb dX6_counted_89 rfl (lv_at hl 1 rfl) ?_
        refine lv_aload_n hx hb dX6_counted_90 rfl (lv_at hl 4 rfl) ?_
        refine pg_get (C := RX6) (T := TX6) (N := 10) hx hb hts hi_X6 hown hK hP hL_mh hf_mh rfl 2 (by decide) (hts (.fieldLink RX6 13 "BarometerLeagueModel" "rains" "[I") (by decide +kernel)) (fun _ h9 => h9) rfl dX6_counted_91 ?_
        refine lv_iload hx hb dX6_counted_94 (lv_at hl 0 rfl) ?_
        refine pn_iald (j := i) hx hb hK hP hL_mr hf_mr rfl (by omega) (Nat.lt_of_lt_of_le (m := 100) (by omega) (by omega)) dX6_counted_96 ?_
        refine lv_iadd hx hb dX6_counted_97 ?_
        refine lv_topi (fun v97 ev97 => ?_)
        refine lv_istore_n (lv' := [(3, .int v97), (4, .int (nI i)), (2, .int (nI k)), (1, .ref oh), (0, .ref mh)]) hx hb dX6_counted_98 rfl hl (by decide) rfl (fun ls hl => ?_)
        refine lv_iinc (v := nI (i + 1)) (lv' := [(4, .int (nI (i + 1))), (3, .int v97), (2, .int (nI k)), (1, .ref oh), (0, .ref mh)]) hx hb dX6_counted_99 hl (k := 1) rfl (nI_1 _) (by decide) rfl (fun ls hl => ?_)
        refine lv_goto (tgt := 82) hx hb dX6_counted_102 (by decide) ?_
        exact ih82 (i + 1) v97 (by omega) (by omega) (sumN_s ha ev97) ls (lv_sub hl [0, 1, 2, 3, 4] rfl)
  exact K82 _ 0 0 (Nat.lt_succ_self _) (Nat.zero_le _) (rfl) ls (lv_sub hl [0, 1, 4, 3, 2] rfl)
