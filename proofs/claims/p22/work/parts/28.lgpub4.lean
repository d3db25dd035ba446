set_option maxHeartbeats 4000000 in
set_option maxRecDepth 100000 in
theorem m_X4_pass (l : Launch) (hst : l.stackTraces = false) (g : GG) (L : List Nat) (f : Nat → va_E) (sz : Nat) (hN : L.Nodup) (lo we al rv d sy rt ed n ga ra : Nat) (mo : Int32) (gl rn sa kd nu : Nat → Int32) (so : Nat → Nat) (el : Nat → Option Nat) (pa nv : Nat) (pl : Nat → Option Nat) (ad aw : Nat → Nat) (vs : Nat → VV) (days : Int32) (hL_lo : lo ∈ L) (hf_lo : f lo = eO 5 [.ref we, .ref al, .ref rv, .int (nI d), .ref sy, .ref rt]) (hL_al : al ∈ L) (hf_al : f al = eO 0 [.int mo, .ref ed, .int (nI n)]) (hL_we : we ∈ L) (hf_we : f we = eO 4 [.ref ga, .ref ra]) (hL_ga : ga ∈ L) (hf_ga : f ga = eI g 12 gl) (hL_ra : ra ∈ L) (hf_ra : f ra = eZ g 12 rn) (hL_sy : sy ∈ L) (hf_sy : f sy = eI g 8 sa) (hL_rv : rv ∈ L) (hf_rv : f rv = eO 3 [.ref pa, .int (nI nv)]) (hL_pa : pa ∈ L) (hf_pa : f pa = eV g 6 pl) (hn : n ≤ 8) (hrn : ∀ k, k < 12 → ∃ b, rn k = b2i b) (hSg : Sgs g L f n ed so el kd nu) (hnv : nv ≤ 6) (hpl : ∀ v, v < 6 → pl v = some (ad v)) (hV : Vils g L f 6 ad aw vs) (hD : Dst 6 ad aw) (hd : d + 90 < 2 ^ 30) (hsy : ∀ v, v < 6 → sy ≠ aw v) : TW l g yX4_pass wsX4_pass 7 137 1 6 L f sz [.ref lo, .int days] (fun r f2 => ∃ k, 1 ≤ k ∧ k ≤ 90 ∧ days = nI k ∧ r = sumN (fun i => hitsL kd nu gl rn n nv (d + i) (itL kd nu gl rn n nv d (sa, vs) i)) k ∧ f2 lo = eO 5 [.ref we, .ref al, .ref rv, .int (nI (d + k)), .ref sy, .ref rt] ∧ f2 sy = eI g 8 (itL kd nu gl rn n nv d (sa, vs) k).1 ∧ Vils g L f2 6 ad aw (itL kd nu gl rn n nv d (sa, vs) k).2 ∧ FrP f f2 lo sy 6 ad aw) (fun E => E = "java/lang/IllegalArgumentException" ∧ decide ((1 : Int32) ≤ days ∧ days ≤ nI 90) = false) := by
  refine TW.start (cc := cX4_pass) (maxL := 3) (ret := .int) hst (by decide) rfl (by simp [lg_sl, Value.category]) (by decide) (by decide) ?_
  intro p e s m args below meth c Q ls hx hb hml hts hown hS hP hK hZ hl hend hthr hprop
  have hA : ∀ a ∈ L, AA L s.heap.size a := fun _ h => Or.inl h
  have hA2 : ∀ q, s.heap.size ≤ q → AA L s.heap.size q := fun _ h => Or.inr h
  have hl : lv_has ls 3 [(0, .ref lo), (1, .int days)] := hl
  have hi_X4 : ∀ w ∈ u_ws RX4 TX4 6, w ∈ wsX4_pass := by decide +kernel
  have hFr : FrP f f lo sy 6 ad aw := FrP.rf
  have n_lo_al : lo ≠ al := ne_e hf_lo hf_al (by simp)
  have n_lo_we : lo ≠ we := ne_e hf_lo hf_we (by simp)
  have n_lo_ga : lo ≠ ga := ne_e hf_lo hf_ga (by simp)
  have n_lo_ra : lo ≠ ra := ne_e hf_lo hf_ra (by simp)
  have n_lo_sy : lo ≠ sy := ne_e hf_lo hf_sy (by simp)
  have n_lo_rv : lo ≠ rv := ne_e hf_lo hf_rv (by simp)
  have n_lo_pa : lo ≠ pa := ne_e hf_lo hf_pa (by simp)
  have n_al_we : al ≠ we := ne_e hf_al hf_we (by simp)
  have n_al_ga : al ≠ ga := ne_e hf_al hf_ga (by simp)
  have n_al_ra : al ≠ ra := ne_e hf_al hf_ra (by simp)
  have n_al_sy : al ≠ sy := ne_e hf_al hf_sy (by simp)
  have n_al_rv : al ≠ rv := ne_e hf_al hf_rv (by simp)
  have n_al_pa : al ≠ pa := ne_e hf_al hf_pa (by simp)
  have n_we_ga : we ≠ ga := ne_e hf_we hf_ga (by simp)
  have n_we_ra : we ≠ ra := ne_e hf_we hf_ra (by simp)
  have n_we_sy : we ≠ sy := ne_e hf_we hf_sy (by simp)
  have n_we_rv : we ≠ rv := ne_e hf_we hf_rv (by simp)
  have n_we_pa : we ≠ pa := ne_e hf_we hf_pa (by simp)
  have n_ga_sy : ga ≠ sy := ne_e hf_ga hf_sy (by simp)
  have n_ga_rv : ga ≠ rv := ne_e hf_ga hf_rv (by simp)
  have n_ga_pa : ga ≠ pa := ne_e hf_ga hf_pa (by simp)
  have n_ra_sy : ra ≠ sy := ne_e hf_ra hf_sy (by simp)
  have n_ra_rv : ra ≠ rv := ne_e hf_ra hf_rv (by simp)
  have n_ra_pa : ra ≠ pa := ne_e hf_ra hf_pa (by simp)
  have n_sy_rv : sy ≠ rv := ne_e hf_sy hf_rv (by simp)
  have n_sy_pa : sy ≠ pa := ne_e hf_sy hf_pa (by simp)
  have n_rv_pa : rv ≠ pa := ne_e hf_rv hf_pa (by simp)
  have h0f_lo := hf_lo
  have h0f_al := hf_al
  have h0f_we := hf_we
  have h0f_ga := hf_ga
  have h0f_ra := hf_ra
  have h0f_sy := hf_sy
  have h0f_rv := hf_rv
  have h0f_pa := hf_pa
  have off_lo : Off 6 ad aw lo := Off.of hV hf_lo (by simp) (by simp)
  have off_al : Off 6 ad aw al := Off.of hV hf_al (by simp) (by simp)
  have off_rv : Off 6 ad aw rv := Off.of hV hf_rv (by simp) (by simp)
  have off_pa : Off 6 ad aw pa := Off.of hV hf_pa (by simp) (by simp)
  have off_we : Off 6 ad aw we := Off.of hV hf_we (by simp) (by simp)
  have off_ga : Off 6 ad aw ga := Off.of hV hf_ga (by simp) (by simp)
  have off_ra : Off 6 ad aw ra := Off.of hV hf_ra (by simp) (by simp)
  have off_sy : Off 6 ad aw sy := Off.ofI hV hf_sy hsy
  refine lv_iload_n hx hb dX4_pass_0 rfl (lv_at hl 1 rfl) ?_
  refine lv_bipush (v := 90) hx hb dX4_pass_1 (by decide) ?_
  refine tv_S (As := [.int days, .int 90]) (rest := []) ⟨hx, hb, hml, hown, hts⟩ (m_X4_requireDays l hst g L f _ hN days _ ) (va_cwS 2 hts gX4_pass_X4_requireDays rfl rfl rfl (by decide +kernel) ⟨Nat.le_of_ble_eq_true rfl, Nat.le_of_ble_eq_true rfl⟩) hK hZ hP hS rfl hl.1 rfl (Nat.le_of_ble_eq_true rfl) dX4_pass_3 ⟨(Nat.le_of_ble_eq_true rfl), (Nat.le_of_ble_eq_true rfl)⟩ (fun E ce q9 H locs hxc hP hS hce hcv hcl => hprop E ce q9 _ _ _ _ _ _ _ (hxc) hP hS hce hcv hcl (Nat.le_of_ble_eq_true rfl) (Nat.le_of_ble_eq_true rfl)) (fun f3 H locs hr3 hP hS => ?_)
  obtain ⟨hr3, hq3⟩ := hr3
  rw [hq3] at hP
  obtain ⟨k, hk1, hk2, rfl⟩ := dy_in (k := 90) (by omega) hr3
  refine lv_aload_n hx hb dX4_pass_6 rfl (lv_at hl 0 rfl) ?_
  refine lv_aload_n hx hb dX4_pass_7 rfl (lv_at hl 0 rfl) ?_
  refine pg_get (C := RX4) (T := TX4) (N := 6) hx hb hts hi_X4 hown hK hP hL_lo hf_lo rfl 2 (by decide) (hts (.fieldLink RX4 28 "BarometerLeague" "villages" "LBarometerLeague$VillageRow;") (by decide +kernel)) (fun _ h9 => h9) rfl dX4_pass_8 ?_
  refine lv_iload_n hx hb dX4_pass_11 rfl (lv_at hl 1 rfl) ?_
  refine rw_V (As := [.ref rv, .int (nI k)]) (rest := []) ⟨hx, hb, hml, hown, hts⟩ (m_X4_liveDays l g L f _ hN _ _ _ _ _ _ _ _ _ _ _ _ _ _ _ _ _ _ _ _ _ _ _ _ _ _ _ k hL_lo hf_lo hL_al hf_al hL_we hf_we hL_ga hf_ga hL_ra hf_ra hL_sy hf_sy hL_rv hf_rv hL_pa hf_pa hn hrn (by omega) hSg (by omega) hnv hpl hV hD hsy) (cwV 2 hts gX4_pass_X4_liveDays rfl rfl rfl (by decide +kernel) ⟨Nat.le_of_ble_eq_true rfl, Nat.le_of_ble_eq_true rfl⟩) hK hP hA hA2 hS hL_lo hf_lo rfl rfl hl.1 rfl (Nat.le_of_ble_eq_true rfl) dX4_pass_12 ⟨(Nat.le_of_ble_eq_true rfl), (Nat.le_of_ble_eq_true rfl)⟩ (fun r12 f12 H locs hr12 hP hS => ?_)
  obtain ⟨hv12, hf_sy, hV, hw12⟩ := hr12
  have hf_lo : f12 lo = eO 5 [.ref we, .ref al, .ref rv, .int (nI d), .ref sy, .ref rt] := hw12.get hf_lo (n_lo_sy) off_lo
  have hf_al : f12 al = eO 0 [.int mo, .ref ed, .int (nI n)] := hw12.get hf_al (n_al_sy) off_al
  have hf_we : f12 we = eO 4 [.ref ga, .ref ra] := hw12.get hf_we (n_we_sy) off_we
  have hf_ga : f12 ga = eI g 12 gl := hw12.get hf_ga (n_ga_sy) off_ga
  have hf_ra : f12 ra = eZ g 12 rn := hw12.get hf_ra (n_ra_sy) off_ra
  have hf_rv : f12 rv = eO 3 [.ref pa, .int (nI nv)] := hw12.get hf_rv (n_sy_rv.symm) off_rv
  have hf_pa : f12 pa = eV g 6 pl := hw12.get hf_pa (n_sy_pa.symm) off_pa
  replace hFr : FrP f f12 lo sy 6 ad aw := hFr.day hw12
  refine lv_istore_n (lv' := [(2, .int r12), (0, .ref lo), (1, .int (nI k))]) hx hb dX4_pass_15 rfl hl (by decide) rfl (fun ls hl => ?_)
  refine lv_aload_n hx hb dX4_pass_16 rfl (lv_at hl 1 rfl) ?_
  refine lv_dup hx hb dX4_pass_17 rfl ?_
  refine pg_get (C := RX4) (T := TX4) (N := 6) hx hb hts hi_X4 hown hK hP hL_lo hf_lo rfl 3 (by decide) (hts (.fieldLink RX4 165 "BarometerLeague" "day" "I") (by decide +kernel)) (fun _ h9 => h9) rfl dX4_pass_18 ?_
  refine lv_iload_n hx hb dX4_pass_21 rfl (lv_at hl 2 rfl) ?_
  refine lv_iadd hx hb dX4_pass_22 ?_
  refine lv_topi (fun v22 ev22 => ?_)
  have ev22 : v22 = nI (d + k) := (ev22.trans (nat_add rfl rfl))
  subst ev22
  refine pg_put (ty := .int) (C := RX4) (T := TX4) (N := 6) hx hb hts hi_X4 tyX4 tyX4_ok nmX4 hown hK hP hN hA hS hL_lo hf_lo rfl 3 (by decide) (hts (.fieldLink RX4 165 "BarometerLeague" "day" "I") (by decide +kernel)) (fun _ h9 => h9) rfl (by decide +kernel) rfl rfl (Nat.le_of_ble_eq_true rfl) dX4_pass_23 (fun H locs hP hS => ?_)
  obtain ⟨f23, ef23⟩ : ∃ z, z = va_up f12 lo (eO 5 [.ref we, .ref al, .ref rv, .int (nI (d + k)), .ref sy, .ref rt]) := ⟨_, rfl⟩
  replace hP : PP g L f23 H := by rw [ef23]; exact hP
  have hV := hV.fr1 (show Fr f12 f23 [lo] by rw [ef23]; exact Fr.rf.up (by simp)) off_lo
  have hf_sy : f23 sy = eI g 8 ((itL kd nu gl rn n nv d (sa, vs) k).1) := by rw [ef23, va_up_ne _ _ n_lo_sy.symm]; exact hf_sy
  have hf_rv : f23 rv = eO 3 [.ref pa, .int (nI nv)] := by rw [ef23, va_up_ne _ _ n_lo_rv.symm]; exact hf_rv
  have hf_pa : f23 pa = eV g 6 pl := by rw [ef23, va_up_ne _ _ n_lo_pa.symm]; exact hf_pa
  have hf_lo : f23 lo = eO 5 [.ref we, .ref al, .ref rv, .int (nI (d + k)), .ref sy, .ref rt] := by rw [ef23]; exact va_up_self _ _ _
  replace hFr : FrP f f23 lo sy 6 ad aw := by rw [ef23]; exact hFr.put
  refine lv_iload_n hx hb dX4_pass_26 rfl (lv_at hl 0 rfl) ?_
  exact hend (r12) f23 _ _ _ _ _ _ (⟨k, hk1, hk2, rfl, hv12, hf_lo, hf_sy, hV, hFr⟩) hP hS rfl (Nat.le_of_ble_eq_true rfl) (Nat.le_of_ble_eq_true rfl) dX4_pass_27

set_option maxHeartbeats 4000000 in
set_option maxRecDepth 100000 in
theorem m_X4_foresee (l : Launch) (hst : l.stackTraces = false) (g : GG) (L : List Nat) (f : Nat → va_E) (sz : Nat) (hN : L.Nodup) (lo we al rv d sy rt ed n ga ra : Nat) (mo : Int32) (gl rn sa kd nu : Nat → Int32) (so : Nat → Nat) (el : Nat → Option Nat) (pa nv : Nat) (pl : Nat → Option Nat) (ad aw : Nat → Nat) (vs : Nat → VV) (tp : Nat) (tpl : Nat → Option Nat) (tad taw : Nat → Nat) (tvs : Nat → VV) (ts : Nat) (days what : Int32) (hL_lo : lo ∈ L) (hf_lo : f lo = eO 5 [.ref we, .ref al, .ref rv, .int (nI d), .ref sy, .ref rt]) (hL_al : al ∈ L) (hf_al : f al = eO 0 [.int mo, .ref ed, .int (nI n)]) (hL_we : we ∈ L) (hf_we : f we = eO 4 [.ref ga, .ref ra]) (hL_ga : ga ∈ L) (hf_ga : f ga = eI g 12 gl) (hL_ra : ra ∈ L) (hf_ra : f ra = eZ g 12 rn) (hL_sy : sy ∈ L) (hf_sy : f sy = eI g 8 sa) (hL_rv : rv ∈ L) (hf_rv : f rv = eO 3 [.ref pa, .int (nI nv)]) (hL_pa : pa ∈ L) (hf_pa : f pa = eV g 6 pl) (hL_rt : rt ∈ L) (hf_rt : f rt = eO 3 [.ref tp, .int (nI ts)]) (hL_tp : tp ∈ L) (hf_tp : f tp = eV g 9 tpl) (n_rv_rt : rv ≠ rt) (hn : n ≤ 8) (hrn : ∀ k, k < 12 → ∃ b, rn k = b2i b) (hSg : Sgs g L f n ed so el kd nu) (hnv : nv ≤ 6) (hpl : ∀ v, v < 6 → pl v = some (ad v)) (hV : Vils g L f 6 ad aw vs) (hd : d + 90 < 2 ^ 30) (hsy : ∀ v, v < 6 → sy ≠ aw v) (hplT : ∀ v, v < 9 → tpl v = some (tad v)) (hT : Vils g L f 9 tad taw tvs) (hDT : Dst 9 tad taw) (hX : ∀ v, v < 6 → Off 9 tad taw (ad v) ∧ Off 9 tad taw (aw v)) (hsyT : ∀ v, v < 9 → sy ≠ taw v) : TW l g yX4_foresee wsX4_foresee 7 137 8 48 L f sz [.ref lo, .int days, .int what] (fun r f2 => ∃ k w, 1 ≤ k ∧ k ≤ 90 ∧ days = nI k ∧ 3 ≤ w ∧ w ≤ 5 ∧ what = nI w ∧ r = covL (saS kd nu gl rn n (d + k) (itL kd nu gl rn n nv d (sa, cpV vs tvs nv) k).1) (itL kd nu gl rn n nv d (sa, cpV vs tvs nv) k).2 nv w ∧ f2 rt = eO 3 [.ref tp, .int (nI nv)] ∧ f2 sy = eI g 8 (if w = 5 then saS kd nu gl rn n (d + k) (itL kd nu gl rn n nv d (sa, cpV vs tvs nv) k).1 else (itL kd nu gl rn n nv d (sa, cpV vs tvs nv) k).1) ∧ Vils g L f2 9 tad taw (itL kd nu gl rn n nv d (sa, cpV vs tvs nv) k).2 ∧ FrP f f2 rt sy 9 tad taw) (fun E => (E = "java/lang/IllegalArgumentException" ∧ decide ((1 : Int32) ≤ days ∧ days ≤ nI 90) = false) ∨ (E = "java/lang/IndexOutOfBoundsException" ∧ decide ((1 : Int32) ≤ days ∧ days ≤ nI 90) = true ∧ decide ((3 : Int32) ≤ what ∧ what ≤ 5) = false)) := by
  refine TW.start (cc := cX4_foresee) (maxL := 4) (ret := .int) hst (by decide) rfl (by simp [lg_sl, Value.category]) (by decide) (by decide) ?_
  intro p e s m args below meth c Q ls hx hb hml hts hown hS hP hK hZ hl hend hthr hprop
  have hA : ∀ a ∈ L, AA L s.heap.size a := fun _ h => Or.inl h
  have hA2 : ∀ q, s.heap.size ≤ q → AA L s.heap.size q := fun _ h => Or.inr h
  have hl : lv_has ls 4 [(0, .ref lo), (1, .int days), (2, .int what)] := hl
  have hi_X4 : ∀ w ∈ u_ws RX4 TX4 6, w ∈ wsX4_foresee := by decide +kernel
  have hFr : FrP f f rt sy 9 tad taw := FrP.rf
  have n_lo_al : lo ≠ al := ne_e hf_lo hf_al (by simp)
  have n_lo_we : lo ≠ we := ne_e hf_lo hf_we (by simp)
  have n_lo_ga : lo ≠ ga := ne_e hf_lo hf_ga (by simp)
  have n_lo_ra : lo ≠ ra := ne_e hf_lo hf_ra (by simp)
  have n_lo_sy : lo ≠ sy := ne_e hf_lo hf_sy (by simp)
  have n_lo_rv : lo ≠ rv := ne_e hf_lo hf_rv (by simp)
  have n_lo_pa : lo ≠ pa := ne_e hf_lo hf_pa (by simp)
  have n_lo_rt : lo ≠ rt := ne_e hf_lo hf_rt (by simp)
  have n_lo_tp : lo ≠ tp := ne_e hf_lo hf_tp (by simp)
  have n_al_we : al ≠ we := ne_e hf_al hf_we (by simp)
  have n_al_ga : al ≠ ga := ne_e hf_al hf_ga (by simp)
  have n_al_ra : al ≠ ra := ne_e hf_al hf_ra (by simp)
  have n_al_sy : al ≠ sy := ne_e hf_al hf_sy (by simp)
  have n_al_rv : al ≠ rv := ne_e hf_al hf_rv (by simp)
  have n_al_pa : al ≠ pa := ne_e hf_al hf_pa (by simp)
  have n_al_rt : al ≠ rt := ne_e hf_al hf_rt (by simp)
  have n_al_tp : al ≠ tp := ne_e hf_al hf_tp (by simp)
  have n_we_ga : we ≠ ga := ne_e hf_we hf_ga (by simp)
  have n_we_ra : we ≠ ra := ne_e hf_we hf_ra (by simp)
  have n_we_sy : we ≠ sy := ne_e hf_we hf_sy (by simp)
  have n_we_rv : we ≠ rv := ne_e hf_we hf_rv (by simp)
  have n_we_pa : we ≠ pa := ne_e hf_we hf_pa (by simp)
  have n_we_rt : we ≠ rt := ne_e hf_we hf_rt (by simp)
  have n_we_tp : we ≠ tp := ne_e hf_we hf_tp (by simp)
  have n_ga_sy : ga ≠ sy := ne_e hf_ga hf_sy (by simp)
  have n_ga_rv : ga ≠ rv := ne_e hf_ga hf_rv (by simp)
  have n_ga_pa : ga ≠ pa := ne_e hf_ga hf_pa (by simp)
  have n_ga_rt : ga ≠ rt := ne_e hf_ga hf_rt (by simp)
  have n_ga_tp : ga ≠ tp := ne_e hf_ga hf_tp (by simp)
  have n_ra_sy : ra ≠ sy := ne_e hf_ra hf_sy (by simp)
  have n_ra_rv : ra ≠ rv := ne_e hf_ra hf_rv (by simp)
  have n_ra_pa : ra ≠ pa := ne_e hf_ra hf_pa (by simp)
  have n_ra_rt : ra ≠ rt := ne_e hf_ra hf_rt (by simp)
  have n_ra_tp : ra ≠ tp := ne_e hf_ra hf_tp (by simp)
  have n_sy_rv : sy ≠ rv := ne_e hf_sy hf_rv (by simp)
  have n_sy_pa : sy ≠ pa := ne_e hf_sy hf_pa (by simp)
  have n_sy_rt : sy ≠ rt := ne_e hf_sy hf_rt (by simp)
  have n_sy_tp : sy ≠ tp := ne_e hf_sy hf_tp (by simp)
  have n_rv_pa : rv ≠ pa := ne_e hf_rv hf_pa (by simp)
  have n_rv_tp : rv ≠ tp := ne_e hf_rv hf_tp (by simp)
  have n_pa_rt : pa ≠ rt := ne_e hf_pa hf_rt (by simp)
  have n_pa_tp : pa ≠ tp := ne_e hf_pa hf_tp (by simp)
  have n_rt_tp : rt ≠ tp := ne_e hf_rt hf_tp (by simp)
  have h0f_lo := hf_lo
  have h0f_al := hf_al
  have h0f_we := hf_we
  have h0f_ga := hf_ga
  have h0f_ra := hf_ra
  have h0f_sy := hf_sy
  have h0f_rv := hf_rv
  have h0f_pa := hf_pa
  have h0f_rt := hf_rt
  have h0f_tp := hf_tp
  have off9_lo : Off 9 tad taw lo := Off.of hT hf_lo (by simp) (by simp)
  have off9_al : Off 9 tad taw al := Off.of hT hf_al (by simp) (by simp)
  have off9_rv : Off 9 tad taw rv := Off.of hT hf_rv (by simp) (by simp)
  have off9_pa : Off 9 tad taw pa := Off.of hT hf_pa (by simp) (by simp)
  have off9_we : Off 9 tad taw we := Off.of hT hf_we (by simp) (by simp)
  have off9_ga : Off 9 tad taw ga := Off.of hT hf_ga (by simp) (by simp)
  have off9_ra : Off 9 tad taw ra := Off.of hT hf_ra (by simp) (by simp)
  have off9_rt : Off 9 tad taw rt := Off.of hT hf_rt (by simp) (by simp)
  have off9_tp : Off 9 tad taw tp := Off.of hT hf_tp (by simp) (by simp)
  have off9_sy : Off 9 tad taw sy := Off.ofI hT hf_sy hsyT
  have h0_hSg := hSg
  have h0_hV := hV
  have h0_hT := hT
  have off_lo : Off 6 ad aw lo := Off.of hV hf_lo (by simp) (by simp)
  have off_al : Off 6 ad aw al := Off.of hV hf_al (by simp) (by simp)
  have off_rv : Off 6 ad aw rv := Off.of hV hf_rv (by simp) (by simp)
  have off_pa : Off 6 ad aw pa := Off.of hV hf_pa (by simp) (by simp)
  have off_we : Off 6 ad aw we := Off.of hV hf_we (by simp) (by simp)
  have off_ga : Off 6 ad aw ga := Off.of hV hf_ga (by simp) (by simp)
  have off_ra : Off 6 ad aw ra := Off.of hV hf_ra (by simp) (by simp)
  have off_rt : Off 6 ad aw rt := Off.of hV hf_rt (by simp) (by simp)
  have off_tp : Off 6 ad aw tp := Off.of hV hf_tp (by simp) (by simp)
  have off_sy : Off 6 ad aw sy := Off.ofI hV hf_sy hsy
  refine lv_iload_n hx hb dX4_foresee_0 rfl (lv_at hl 1 rfl) ?_
  refine lv_bipush (v := 90) hx hb dX4_foresee_1 (by decide) ?_
  refine tv_S (As := [.int days, .int 90]) (rest := []) ⟨hx, hb, hml, hown, hts⟩ (m_X4_requireDays l hst g L f _ hN days _ ) (va_cwS 2 hts gX4_foresee_X4_requireDays rfl rfl rfl (by decide +kernel) ⟨Nat.le_of_ble_eq_true rfl, Nat.le_of_ble_eq_true rfl⟩) hK hZ hP hS rfl hl.1 rfl (Nat.le_of_ble_eq_true rfl) dX4_foresee_3 ⟨(Nat.le_of_ble_eq_true rfl), (Nat.le_of_ble_eq_true rfl)⟩ (fun E ce q9 H locs hxc hP hS hce hcv hcl => hprop E ce q9 _ _ _ _ _ _ _ (Or.inl hxc) hP hS hce hcv hcl (Nat.le_of_ble_eq_true rfl) (Nat.le_of_ble_eq_true rfl)) (fun f3 H locs hr3 hP hS => ?_)
  obtain ⟨hr3, hq3⟩ := hr3
  rw [hq3] at hP
  refine lv_iload_n hx hb dX4_foresee_6 rfl (lv_at hl 2 rfl) ?_
  refine lv_iconst (v := 3) hx hb dX4_foresee_7 (by decide) ?_
  refine lv_iconst (v := 5) hx hb dX4_foresee_8 (by decide) ?_
  refine tv_S (As := [.int what, .int 3, .int 5]) (rest := []) ⟨hx, hb, hml, hown, hts⟩ (m_X4_requireWhat l hst g L f _ hN what _ _ ) (va_cwS 3 hts gX4_foresee_X4_requireWhat rfl rfl rfl (by decide +kernel) ⟨Nat.le_of_ble_eq_true rfl, Nat.le_of_ble_eq_true rfl⟩) hK hZ hP hS rfl hl.1 rfl (Nat.le_of_ble_eq_true rfl) dX4_foresee_9 ⟨(Nat.le_of_ble_eq_true rfl), (Nat.le_of_ble_eq_true rfl)⟩ (fun E ce q9 H locs hxc hP hS hce hcv hcl => hprop E ce q9 _ _ _ _ _ _ _ (Or.inr ⟨hxc.1, hr3, hxc.2⟩) hP hS hce hcv hcl (Nat.le_of_ble_eq_true rfl) (Nat.le_of_ble_eq_true rfl)) (fun f9 H locs hr9 hP hS => ?_)
  obtain ⟨hr9, hq9⟩ := hr9
  rw [hq9] at hP
  have hr3b := hr3
  obtain ⟨k, hk1, hk2, rfl⟩ := dy_in (k := 90) (by omega) hr3
  obtain ⟨w, hw1, hw2, rfl⟩ := wt_in hr9
  refine lv_aload_n hx hb dX4_foresee_12 rfl (lv_at hl 0 rfl) ?_
  refine pg_get (C := RX4) (T := TX4) (N := 6) hx hb hts hi_X4 hown hK hP hL_lo hf_lo rfl 5 (by decide) (hts (.fieldLink RX4 36 "BarometerLeague" "trials" "LBarometerLeague$VillageRow;") (by decide +kernel)) (fun _ h9 => h9) rfl dX4_foresee_13 ?_
  refine rv_V (As := []) (rest := []) ⟨hx, hb, hml, hown, hts⟩ (m_X2_clear l g L f _ hN _ _ _ hL_rt hf_rt) (cwV 0 hts gX4_foresee_X2_clear rfl rfl rfl (by decide +kernel) ⟨Nat.le_of_ble_eq_true rfl, Nat.le_of_ble_eq_true rfl⟩) hK hP hA hA2 hS hL_rt hf_rt rfl rfl hl.1 rfl (Nat.le_of_ble_eq_true rfl) dX4_foresee_16 ⟨(Nat.le_of_ble_eq_true rfl), (Nat.le_of_ble_eq_true rfl)⟩ (fun f16 H locs hr16 hP hS => ?_)
  obtain ⟨hc16_0, hw16⟩ := hr16
  have hf_lo : f16 lo = eO 5 [.ref we, .ref al, .ref rv, .int (nI d), .ref sy, .ref rt] := hw16.get hf_lo (nm_c n_lo_rt (List.not_mem_nil))
  have hf_al : f16 al = eO 0 [.int mo, .ref ed, .int (nI n)] := hw16.get hf_al (nm_c n_al_rt (List.not_mem_nil))
  have hf_we : f16 we = eO 4 [.ref ga, .ref ra] := hw16.get hf_we (nm_c n_we_rt (List.not_mem_nil))
  have hf_ga : f16 ga = eI g 12 gl := hw16.get hf_ga (nm_c n_ga_rt (List.not_mem_nil))
  have hf_ra : f16 ra = eZ g 12 rn := hw16.get hf_ra (nm_c n_ra_rt (List.not_mem_nil))
  have hf_sy : f16 sy = eI g 8 sa := hw16.get hf_sy (nm_c n_sy_rt (List.not_mem_nil))
  have hf_rv : f16 rv = eO 3 [.ref pa, .int (nI nv)] := hw16.get hf_rv (nm_c n_rv_rt (List.not_mem_nil))
  have hf_pa : f16 pa = eV g 6 pl := hw16.get hf_pa (nm_c n_pa_rt (List.not_mem_nil))
  have hf_tp : f16 tp = eV g 9 tpl := hw16.get hf_tp (nm_c n_rt_tp.symm (List.not_mem_nil))
  have hf_rt : f16 rt = eO 3 [.ref tp, .int (nI 0)] := hc16_0
  replace hFr : FrP f f16 rt sy 9 tad taw := hFr.lo hw16
  have hT := hT.fr1 hw16 off9_rt
  have hSg : Sgs g L f16 n ed so el kd nu := h0_hSg.frP hFr h0f_rt (by decide) h0f_sy h0_hT
  have hV : Vils g L f16 6 ad aw vs := h0_hV.frP hFr h0f_rt (by decide) h0f_sy hsy hX
  refine lv_iconst (v := 0) hx hb dX4_foresee_19 (by decide) ?_
  refine lv_istore_n (lv' := [(3, .int 0), (0, .ref lo), (1, .int (nI k)), (2, .int (nI w))]) hx hb dX4_foresee_20 rfl hl (by decide) rfl (fun ls hl => ?_)
  have hT : Vils g L f16 9 tad taw (cpV vs tvs 0) := by rw [cpV_0]; exact hT
  have K21 : ∀ (n21 : Nat) (i : Nat) (f21 : Nat → va_E) (H : Heap) (locs : List Loc), nv - i < n21 → i ≤ nv → Vils g L f21 9 tad taw (cpV vs tvs i) → f21 rt = eO 3 [.ref tp, .int (nI i)] → f21 sy = eI g 8 sa → FrP f f21 rt sy 9 tad taw → PP g L f21 H → va_S (AA L s.heap.size) s.heap H locs → ∀ (ls : Array Slot), lv_has ls 4 [(3, .int (nI i)), (2, .int (nI w)), (1, .int (nI k)), (0, .ref lo)] → W p l e ({ frames := 7, cells := 8, slots := 48, locals := 137 } : Room) s m args below meth c H locs (2 + i) (6 * (2 + i)) Q (F0 m 21 ls []) := by
    intro n21
    induction n21 with
    | zero => intros; omega
    | succ n21 ih21 =>
      intro i f21 H locs hm21 hi hT hq21_0 hq21_1 hFr hP hS ls hl
      have hf_lo : f21 lo = eO 5 [.ref we, .ref al, .ref rv, .int (nI d), .ref sy, .ref rt] := hFr.get h0f_lo (ne_e h0f_lo h0f_rt (by simp)) (ne_e h0f_lo h0f_sy (by simp)) off9_lo
      have hf_al : f21 al = eO 0 [.int mo, .ref ed, .int (nI n)] := hFr.get h0f_al (ne_e h0f_al h0f_rt (by simp)) (ne_e h0f_al h0f_sy (by simp)) off9_al
      have hf_we : f21 we = eO 4 [.ref ga, .ref ra] := hFr.get h0f_we (ne_e h0f_we h0f_rt (by simp)) (ne_e h0f_we h0f_sy (by simp)) off9_we
      have hf_ga : f21 ga = eI g 12 gl := hFr.get h0f_ga (ne_e h0f_ga h0f_rt (by simp)) (ne_e h0f_ga h0f_sy (by simp)) off9_ga
      have hf_ra : f21 ra = eZ g 12 rn := hFr.get h0f_ra (ne_e h0f_ra h0f_rt (by simp)) (ne_e h0f_ra h0f_sy (by simp)) off9_ra
      have hf_rv : f21 rv = eO 3 [.ref pa, .int (nI nv)] := hFr.get h0f_rv n_rv_rt (ne_e h0f_rv h0f_sy (by simp)) off9_rv
      have hf_pa : f21 pa = eV g 6 pl := hFr.get h0f_pa (ne_e h0f_pa h0f_rt (by simp)) (ne_e h0f_pa h0f_sy (by simp)) off9_pa
      have hf_tp : f21 tp = eV g 9 tpl := hFr.get h0f_tp (ne_e h0f_tp h0f_rt (by simp)) (ne_e h0f_tp h0f_sy (by simp)) off9_tp
      have hf_rt : f21 rt = eO 3 [.ref tp, .int (nI i)] := hq21_0
      have hf_sy : f21 sy = eI g 8 sa := hq21_1
      have hSg : Sgs g L f21 n ed so el kd nu := h0_hSg.frP hFr h0f_rt (by decide) h0f_sy h0_hT
      have hV : Vils g L f21 6 ad aw vs := h0_hV.frP hFr h0f_rt (by decide) h0f_sy hsy hX
      refine lv_iload_n hx hb dX4_foresee_21 rfl (lv_at hl 0 rfl) ?_
      refine lv_aload_n hx hb dX4_foresee_22 rfl (lv_at hl 3 rfl) ?_
      refine pg_get (C := RX4) (T := TX4) (N := 6) hx hb hts hi_X4 hown hK hP hL_lo hf_lo rfl 2 (by decide) (hts (.fieldLink RX4 28 "BarometerLeague" "villages" "LBarometerLeague$VillageRow;") (by decide +kernel)) (fun _ h9 => h9) rfl dX4_foresee_23 ?_
      refine ro_V (As := []) (rest := [.int (nI i)]) ⟨hx, hb, hml, hown, hts⟩ (m_X2_size l g L f21 _ _ _ hL_rv hf_rv) (cwV 0 hts gX4_foresee_X2_size rfl rfl rfl (by decide +kernel) ⟨Nat.le_of_ble_eq_true rfl, Nat.le_of_ble_eq_true rfl⟩) hK hP hL_rv hf_rv rfl rfl hl.1 rfl (Nat.le_of_ble_eq_true rfl) dX4_foresee_26 ⟨(by show 2 + i ≤ 8; omega), (by show 6 * (2 + i) ≤ 48; omega)⟩ (fun r26 hr26 => ?_)
      have hr26 : r26 = nI nv := hr26
      subst hr26
      refine lv_icmp_ge (tgt := 53) hx hb dX4_foresee_29 (by decide) (fun c29 => ?_) (fun c29 => ?_)
      · skip
        have c29 : nv ≤ i := (nI_leI (a := nv) (b := i) (by omega) (by omega)).mp (show nI nv ≤ nI i from c29)
        obtain rfl : nv = i := by omega
        have hf_sy0 := hf_sy
        refine lv_aload_n hx hb dX4_foresee_53 rfl (lv_at hl 3 rfl) ?_
        refine lv_aload_n hx hb dX4_foresee_54 rfl (lv_at hl 3 rfl) ?_
        refine pg_get (C := RX4) (T := TX4) (N := 6) hx hb hts hi_X4 hown hK hP hL_lo hf_lo rfl 5 (by decide) (hts (.fieldLink RX4 36 "BarometerLeague" "trials" "LBarometerLeague$VillageRow;") (by decide +kernel)) (fun _ h9 => h9) rfl dX4_foresee_55 ?_
        refine lv_iload_n hx hb dX4_foresee_58 rfl (lv_at hl 2 rfl) ?_
        refine rw_V (As := [.ref rt, .int (nI k)]) (rest := []) ⟨hx, hb, hml, hown, hts⟩ (m_X4_liveDays l g L f21 _ hN _ _ _ _ _ _ _ _ _ _ _ _ _ _ _ _ _ _ _ _ _ _ _ _ _ _ _ k hL_lo hf_lo hL_al hf_al hL_we hf_we hL_ga hf_ga hL_ra hf_ra hL_sy hf_sy hL_rt hf_rt hL_tp hf_tp hn hrn (by omega) hSg (by omega) (by omega) hplT hT hDT hsyT) (cwV 2 hts gX4_foresee_X4_liveDays rfl rfl rfl (by decide +kernel) ⟨Nat.le_of_ble_eq_true rfl, Nat.le_of_ble_eq_true rfl⟩) hK hP hA hA2 hS hL_lo hf_lo rfl rfl hl.1 rfl (Nat.le_of_ble_eq_true rfl) dX4_foresee_59 ⟨(by show 2 + nv ≤ 8; omega), (by show 6 * (2 + nv) ≤ 48; omega)⟩ (fun r59 f59 H locs hr59 hP hS => ?_)
        obtain ⟨hv59, hf_sy, hT, hw59⟩ := hr59
        have hf_lo : f59 lo = eO 5 [.ref we, .ref al, .ref rv, .int (nI d), .ref sy, .ref rt] := hw59.get hf_lo (ne_e hf_lo (show f21 sy = _ from hf_sy0) (by simp)) off9_lo
        have hf_al : f59 al = eO 0 [.int mo, .ref ed, .int (nI n)] := hw59.get hf_al (ne_e hf_al (show f21 sy = _ from hf_sy0) (by simp)) off9_al
        have hf_we : f59 we = eO 4 [.ref ga, .ref ra] := hw59.get hf_we (ne_e hf_we (show f21 sy = _ from hf_sy0) (by simp)) off9_we
        have hf_ga : f59 ga = eI g 12 gl := hw59.get hf_ga (ne_e hf_ga (show f21 sy = _ from hf_sy0) (by simp)) off9_ga
        have hf_ra : f59 ra = eZ g 12 rn := hw59.get hf_ra (ne_e hf_ra (show f21 sy = _ from hf_sy0) (by simp)) off9_ra
        have hf_rv : f59 rv = eO 3 [.ref pa, .int (nI nv)] := hw59.get hf_rv (ne_e hf_rv (show f21 sy = _ from hf_sy0) (by simp)) off9_rv
        have hf_pa : f59 pa = eV g 6 pl := hw59.get hf_pa (ne_e hf_pa (show f21 sy = _ from hf_sy0) (by simp)) off9_pa
        have hf_rt : f59 rt = eO 3 [.ref tp, .int (nI nv)] := hw59.get hf_rt (ne_e hf_rt (show f21 sy = _ from hf_sy0) (by simp)) off9_rt
        have hf_tp : f59 tp = eV g 9 tpl := hw59.get hf_tp (ne_e hf_tp (show f21 sy = _ from hf_sy0) (by simp)) off9_tp
        replace hFr : FrP f f59 rt sy 9 tad taw := hFr.day hw59
        have hSg : Sgs g L f59 n ed so el kd nu := h0_hSg.frP hFr h0f_rt (by decide) h0f_sy h0_hT
        have hV : Vils g L f59 6 ad aw vs := h0_hV.frP hFr h0f_rt (by decide) h0f_sy hsy hX
        refine lv_pop hx hb dX4_foresee_62 rfl ?_
        refine lv_aload_n hx hb dX4_foresee_63 rfl (lv_at hl 3 rfl) ?_
        refine lv_aload_n hx hb dX4_foresee_64 rfl (lv_at hl 3 rfl) ?_
        refine pg_get (C := RX4) (T := TX4) (N := 6) hx hb hts hi_X4 hown hK hP hL_lo hf_lo rfl 5 (by decide) (hts (.fieldLink RX4 36 "BarometerLeague" "trials" "LBarometerLeague$VillageRow;") (by decide +kernel)) (fun _ h9 => h9) rfl dX4_foresee_65 ?_
        refine lv_iload_n hx hb dX4_foresee_68 rfl (lv_at hl 1 rfl) ?_
        refine lv_aload_n hx hb dX4_foresee_69 rfl (lv_at hl 3 rfl) ?_
        refine pg_get (C := RX4) (T := TX4) (N := 6) hx hb hts hi_X4 hown hK hP hL_lo hf_lo rfl 3 (by decide) (hts (.fieldLink RX4 165 "BarometerLeague" "day" "I") (by decide +kernel)) (fun _ h9 => h9) rfl dX4_foresee_70 ?_
        refine lv_iload_n hx hb dX4_foresee_73 rfl (lv_at hl 2 rfl) ?_
        refine lv_iadd hx hb dX4_foresee_74 ?_
        refine lv_topi (fun v74 ev74 => ?_)
        have ev74 : v74 = nI (d + k) := (ev74.trans (nat_add rfl rfl))
        subst ev74
        refine rw_V (As := [.ref rt, .int (nI w), .int (nI (d + k))]) (rest := []) ⟨hx, hb, hml, hown, hts⟩ (m_X4_countOver l g L f59 _ hN _ _ _ _ _ _ _ _ _ _ _ _ _ _ _ _ _ _ _ _ _ _ _ _ _ _ _ w (d + k) hL_lo hf_lo hL_al hf_al hL_we hf_we hL_ga hf_ga hL_ra hf_ra hL_sy hf_sy hL_rt hf_rt hL_tp hf_tp hn hrn (by omega) hSg (by omega) (by omega) hplT hT hDT hsyT ⟨hw1, hw2⟩) (cwV 3 hts gX4_foresee_X4_countOver rfl rfl rfl (by decide +kernel) ⟨Nat.le_of_ble_eq_true rfl, Nat.le_of_ble_eq_true rfl⟩) hK hP hA hA2 hS hL_lo hf_lo rfl rfl hl.1 rfl (Nat.le_of_ble_eq_true rfl) dX4_foresee_75 ⟨(by show 2 + nv ≤ 8; omega), (by show 6 * (2 + nv) ≤ 48; omega)⟩ (fun r75 f75 H locs hr75 hP hS => ?_)
        obtain ⟨hv75, hc75_0, hw75⟩ := hr75
        have hf_lo : f75 lo = eO 5 [.ref we, .ref al, .ref rv, .int (nI d), .ref sy, .ref rt] := hw75.get hf_lo (nm_c n_lo_sy (List.not_mem_nil))
        have hf_al : f75 al = eO 0 [.int mo, .ref ed, .int (nI n)] := hw75.get hf_al (nm_c n_al_sy (List.not_mem_nil))
        have hf_we : f75 we = eO 4 [.ref ga, .ref ra] := hw75.get hf_we (nm_c n_we_sy (List.not_mem_nil))
        have hf_ga : f75 ga = eI g 12 gl := hw75.get hf_ga (nm_c n_ga_sy (List.not_mem_nil))
        have hf_ra : f75 ra = eZ g 12 rn := hw75.get hf_ra (nm_c n_ra_sy (List.not_mem_nil))
        have hf_rv : f75 rv = eO 3 [.ref pa, .int (nI nv)] := hw75.get hf_rv (nm_c n_sy_rv.symm (List.not_mem_nil))
        have hf_pa : f75 pa = eV g 6 pl := hw75.get hf_pa (nm_c n_sy_pa.symm (List.not_mem_nil))
        have hf_rt : f75 rt = eO 3 [.ref tp, .int (nI nv)] := hw75.get hf_rt (nm_c n_sy_rt.symm (List.not_mem_nil))
        have hf_tp : f75 tp = eV g 9 tpl := hw75.get hf_tp (nm_c n_sy_tp.symm (List.not_mem_nil))
        have hf_sy : f75 sy = eI g 8 (if w = 5 then saS kd nu gl rn n (d + k) ((itL kd nu gl rn n nv d (sa, cpV vs tvs nv) k).1) else (itL kd nu gl rn n nv d (sa, cpV vs tvs nv) k).1) := hc75_0
        replace hFr : FrP f f75 rt sy 9 tad taw := hFr.sy hw75
        exact hend (r75) f75 _ _ _ _ _ _ (⟨k, w, hk1, hk2, rfl, hw1, hw2, rfl, hv75, hf_rt, hf_sy, hT.fr1 hw75 off9_sy, hFr⟩) hP hS rfl (by show 2 + nv ≤ 8; omega) (by show 6 * (2 + nv) ≤ 48; omega) dX4_foresee_78
      · skip
        have c29 : ¬ nv ≤ i := fun h => c29 ((nI_leI (a := nv) (b := i) (by omega) (by omega)).mpr h)
        refine lv_aload_n hx hb dX4_foresee_32 rfl (lv_at hl 3 rfl) ?_
        refine pg_get (C := RX4) (T := TX4) (N := 6) hx hb hts hi_X4 hown hK hP hL_lo hf_lo rfl 5 (by decide) (hts (.fieldLink RX4 36 "BarometerLeague" "trials" "LBarometerLeague$VillageRow;") (by decide +kernel)) (fun _ h9 => h9) rfl dX4_foresee_33 ?_
        refine lv_aload_n hx hb dX4_foresee_36 rfl (lv_at hl 3 rfl) ?_
        refine pg_get (C := RX4) (T := TX4) (N := 6) hx hb hts hi_X4 hown hK hP hL_lo hf_lo rfl 2 (by decide) (hts (.fieldLink RX4 28 "BarometerLeague" "villages" "LBarometerLeague$VillageRow;") (by decide +kernel)) (fun _ h9 => h9) rfl dX4_foresee_37 ?_
        refine lv_iload_n hx hb dX4_foresee_40 rfl (lv_at hl 0 rfl) ?_
        refine tr_V (As := [.int (nI i)]) (rest := [.ref rt]) ⟨hx, hb, hml, hown, hts⟩ (m_X2_get l hst g L f21 _ hN _ _ _ _ _ ad aw _ hL_rv hf_rv hL_pa hf_pa (by omega) hnv hpl) (cwV 1 hts gX4_foresee_X2_get rfl rfl rfl (by decide +kernel) ⟨Nat.le_of_ble_eq_true rfl, Nat.le_of_ble_eq_true rfl⟩) hK hZ hP hS hL_rv hf_rv rfl rfl hl.1 rfl (Nat.le_of_ble_eq_true rfl) dX4_foresee_41 ⟨(by show 2 + i + 1 ≤ 8; omega), (by show 6 * (2 + i + 1) ≤ 48; omega)⟩ (fun E ce q9 H locs hxc _ _ _ _ _ => by exfalso; rw [inB_nI (by omega) (by omega)] at hxc; exact absurd hxc.2 (by decide)) (fun x41 H locs hr41 hP hS => ?_)
        obtain ⟨i2, hi2, hii, rfl⟩ := hr41
        obtain rfl : i = i2 := (nI_eq (by omega) (by omega)).mp hii
        have q41 := hV i (by omega)
        obtain ⟨hL_ad_i, hf_ad_i, hL_aw_i, hf_aw_i⟩ := q41
        refine rv_V (As := [.ref (ad i)]) (rest := []) ⟨hx, hb, hml, hown, hts⟩ (m_X2_addCopy l g L f21 _ hN _ _ _ _ _ tad taw _ _ _ (vs i) hL_rt hf_rt hL_tp hf_tp hL_ad_i hf_ad_i hL_aw_i hf_aw_i (by omega) (by omega) hplT hT hDT (hX i (by omega)).1 (hX i (by omega)).2) (cwV 1 hts gX4_foresee_X2_addCopy rfl rfl rfl (by decide +kernel) ⟨Nat.le_of_ble_eq_true rfl, Nat.le_of_ble_eq_true rfl⟩) hK hP hA hA2 hS hL_rt hf_rt rfl rfl hl.1 rfl (Nat.le_of_ble_eq_true rfl) dX4_foresee_44 ⟨(by show 2 + i + 1 ≤ 8; omega), (by show 6 * (2 + i + 1) ≤ 48; omega)⟩ (fun f44 H locs hr44 hP hS => ?_)
        obtain ⟨hc44, hT, hw44⟩ := hr44
        replace hFr : FrP f f44 rt sy 9 tad taw := hFr.add (n := i) (by omega) hw44
        have hf_lo : f44 lo = eO 5 [.ref we, .ref al, .ref rv, .int (nI d), .ref sy, .ref rt] := hFr.get h0f_lo (ne_e h0f_lo h0f_rt (by simp)) (ne_e h0f_lo h0f_sy (by simp)) off9_lo
        have hf_al : f44 al = eO 0 [.int mo, .ref ed, .int (nI n)] := hFr.get h0f_al (ne_e h0f_al h0f_rt (by simp)) (ne_e h0f_al h0f_sy (by simp)) off9_al
        have hf_we : f44 we = eO 4 [.ref ga, .ref ra] := hFr.get h0f_we (ne_e h0f_we h0f_rt (by simp)) (ne_e h0f_we h0f_sy (by simp)) off9_we
        have hf_ga : f44 ga = eI g 12 gl := hFr.get h0f_ga (ne_e h0f_ga h0f_rt (by simp)) (ne_e h0f_ga h0f_sy (by simp)) off9_ga
        have hf_ra : f44 ra = eZ g 12 rn := hFr.get h0f_ra (ne_e h0f_ra h0f_rt (by simp)) (ne_e h0f_ra h0f_sy (by simp)) off9_ra
        have hf_sy : f44 sy = eI g 8 sa := hw44.get hf_sy (nm_c (ne_e hf_sy hf_rt (by simp)) (nm_c (off9_sy i (by omega)).1 (nm_c (off9_sy i (by omega)).2 List.not_mem_nil)))
        have hf_rv : f44 rv = eO 3 [.ref pa, .int (nI nv)] := hFr.get h0f_rv n_rv_rt (ne_e h0f_rv h0f_sy (by simp)) off9_rv
        have hf_pa : f44 pa = eV g 6 pl := hFr.get h0f_pa (ne_e h0f_pa h0f_rt (by simp)) (ne_e h0f_pa h0f_sy (by simp)) off9_pa
        have hf_tp : f44 tp = eV g 9 tpl := hFr.get h0f_tp (ne_e h0f_tp h0f_rt (by simp)) (ne_e h0f_tp h0f_sy (by simp)) off9_tp
        have hf_rt : f44 rt = eO 3 [.ref tp, .int (nI (i + 1))] := hc44
        have hSg : Sgs g L f44 n ed so el kd nu := h0_hSg.frP hFr h0f_rt (by decide) h0f_sy h0_hT
        have hV : Vils g L f44 6 ad aw vs := h0_hV.frP hFr h0f_rt (by decide) h0f_sy hsy hX
        have hT : Vils g L f44 9 tad taw (cpV vs tvs (i + 1)) := hT.congr (fun v _ => congrFun (cpV_s vs tvs i) v)
        refine lv_iinc (v := nI (i + 1)) (lv' := [(3, .int (nI (i + 1))), (2, .int (nI w)), (1, .int (nI k)), (0, .ref lo)]) hx hb dX4_foresee_47 hl (k := 0) rfl (nI_1 _) (by decide) rfl (fun ls hl => ?_)
        refine lv_goto (tgt := 21) hx hb dX4_foresee_50 (by decide) ?_
        refine W.widen (k := 2 + (i + 1)) (n := 6 * (2 + (i + 1))) (by omega) (by omega) ?_
        exact ih21 (i + 1) f44 H locs (by omega) (by omega) (hT) hf_rt hf_sy hFr hP hS ls (lv_sub hl [0, 1, 2, 3] rfl)
  refine W.widen (k := 2 + 0) (n := 6 * (2 + 0)) (by omega) (by omega) ?_
  exact K21 _ 0 f16 _ _ (Nat.lt_succ_self _) (Nat.zero_le _) (hT) hf_rt hf_sy hFr hP hS ls (lv_sub hl [0, 3, 2, 1] rfl)
