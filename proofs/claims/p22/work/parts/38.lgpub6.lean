set_option maxHeartbeats 4000000 in
set_option maxRecDepth 100000 in
theorem m_X4_overtakes (l : Launch) (hst : l.stackTraces = false) (g : GG) (L : List Nat) (f : Nat → va_E) (sz : Nat) (hN : L.Nodup) (lo we al rv d sy rt ed n ga ra : Nat) (mo : Int32) (gl rn sa kd nu : Nat → Int32) (so : Nat → Nat) (el : Nat → Option Nat) (pa nv : Nat) (pl : Nat → Option Nat) (ad aw : Nat → Nat) (vs : Nat → VV) (tp : Nat) (tpl : Nat → Option Nat) (tad taw : Nat → Nat) (tvs : Nat → VV) (ts : Nat) (v x : Int32) (hL_lo : lo ∈ L) (hf_lo : f lo = eO 5 [.ref we, .ref al, .ref rv, .int (nI d), .ref sy, .ref rt]) (hL_al : al ∈ L) (hf_al : f al = eO 0 [.int mo, .ref ed, .int (nI n)]) (hL_we : we ∈ L) (hf_we : f we = eO 4 [.ref ga, .ref ra]) (hL_ga : ga ∈ L) (hf_ga : f ga = eI g 12 gl) (hL_ra : ra ∈ L) (hf_ra : f ra = eZ g 12 rn) (hL_sy : sy ∈ L) (hf_sy : f sy = eI g 8 sa) (hL_rv : rv ∈ L) (hf_rv : f rv = eO 3 [.ref pa, .int (nI nv)]) (hL_pa : pa ∈ L) (hf_pa : f pa = eV g 6 pl) (hL_rt : rt ∈ L) (hf_rt : f rt = eO 3 [.ref tp, .int (nI ts)]) (hL_tp : tp ∈ L) (hf_tp : f tp = eV g 9 tpl) (n_rv_rt : rv ≠ rt) (hn : n ≤ 8) (hrn : ∀ k, k < 12 → ∃ b, rn k = b2i b) (hSg : Sgs g L f n ed so el kd nu) (hnv : nv ≤ 6) (hpl : ∀ v, v < 6 → pl v = some (ad v)) (hV : Vils g L f 6 ad aw vs) (hd : d + 130 < 2 ^ 30) (hsy : ∀ v, v < 6 → sy ≠ aw v) (hplT : ∀ v, v < 9 → tpl v = some (tad v)) (hT : Vils g L f 9 tad taw tvs) (hDT : Dst 9 tad taw) (hX : ∀ v, v < 6 → Off 9 tad taw (ad v) ∧ Off 9 tad taw (aw v)) (hsyT : ∀ v, v < 9 → sy ≠ taw v) : TW l g yX4_overtakes wsX4_overtakes 7 113 250 1500 L f sz [.ref lo, .int v, .int x] (fun r f2 => ∃ u w i, u < nv ∧ v = nI u ∧ w < nv ∧ x = nI w ∧ u ≠ w ∧ ((i ≤ 120 ∧ r = nI i ∧ ahT kd nu gl rn n d (sa, twoV tvs (vs u) (vs w)) i = true ∧ ∀ j, j < i → ahT kd nu gl rn n d (sa, twoV tvs (vs u) (vs w)) j = false) ∨ (r = -1 ∧ i = 121 ∧ ∀ j, j ≤ 120 → ahT kd nu gl rn n d (sa, twoV tvs (vs u) (vs w)) j = false)) ∧ f2 rt = eO 3 [.ref tp, .int (nI 2)] ∧ f2 sy = eI g 8 (itL kd nu gl rn n 2 d (sa, twoV tvs (vs u) (vs w)) i).1 ∧ Vils g L f2 9 tad taw (itL kd nu gl rn n 2 d (sa, twoV tvs (vs u) (vs w)) i).2 ∧ FrP f f2 rt sy 9 tad taw) (fun E => (E = "java/lang/IndexOutOfBoundsException" ∧ (inB v nv && inB x nv) = false) ∨ (E = "java/lang/IllegalArgumentException" ∧ (inB v nv && inB x nv) = true ∧ v = x)) := by
  refine TW.start (cc := cX4_overtakes) (maxL := 6) (ret := .int) hst (by decide) rfl (by simp [lg_sl, Value.category]) (by decide) (by decide) ?_
  intro p e s m args below meth c Q ls hx hb hml hts hown hS hP hK hZ hl hend hthr hprop
  have hA : ∀ a ∈ L, AA L s.heap.size a := fun _ h => Or.inl h
  have hA2 : ∀ q, s.heap.size ≤ q → AA L s.heap.size q := fun _ h => Or.inr h
  have hl : lv_has ls 6 [(0, .ref lo), (1, .int v), (2, .int x)] := hl
  have hi_X4 : ∀ w ∈ u_ws RX4 TX4 6, w ∈ wsX4_overtakes := by decide +kernel
  have hFr : FrP f f rt sy 9 tad taw := FrP.rf
  have n_lo_al : lo ≠ al := ne_e hf_lo hf_al (by simp)
  have n_lo_we : lo ≠ we := ne_e hf_lo hf_we (by simp)
  have n_lo_ga : lo ≠ ga := ne_e hf_lo hf_ga (by simp)
  have n_lo_ra : lo ≠ ra := ne_e hf_lo hf_ra (by simp)
  have n_lo_sy : lo ≠ sy := ne_e hf_lo hf_sy (by simp)
  have n_lo_rv : lo ≠ rv := ne_e hf_lo hf_rv (by simp)
  have n_lo_pa : lo ≠ pa := ne_e hf_lo hf_pa (by simp)
  have n_lo_rt : lo ≠ rt := ne_e hf_lo hf_rt (by simp)
  have n_lo_tp : lo ≠ tp := ne_e hf_lo hf_tp (by simp)
  have n_al_we : al ≠ we := ne_e hf_al hf_we (by simp)
  have n_al_ga : al ≠ ga := ne_e hf_al hf_ga (by simp)
  have n_al_ra : al ≠ ra := ne_e hf_al hf_ra (by simp)
  have n_al_sy : al ≠ sy := ne_e hf_al hf_sy (by simp)
  have n_al_rv : al ≠ rv := ne_e hf_al hf_rv (by simp)
  have n_al_pa : al ≠ pa := ne_e hf_al hf_pa (by simp)
  have n_al_rt : al ≠ rt := ne_e hf_al hf_rt (by simp)
  have n_al_tp : al ≠ tp := ne_e hf_al hf_tp (by simp)
  have n_we_ga : we ≠ ga := ne_e hf_we hf_ga (by simp)
  have n_we_ra : we ≠ ra := ne_e hf_we hf_ra (by simp)
  have n_we_sy : we ≠ sy := ne_e hf_we hf_sy (by simp)
  have n_we_rv : we ≠ rv := ne_e hf_we hf_rv (by simp)
  have n_we_pa : we ≠ pa := ne_e hf_we hf_pa (by simp)
  have n_we_rt : we ≠ rt := ne_e hf_we hf_rt (by simp)
  have n_we_tp : we ≠ tp := ne_e hf_we hf_tp (by simp)
  have n_ga_sy : ga ≠ sy := ne_e hf_ga hf_sy (by simp)
  have n_ga_rv : ga ≠ rv := ne_e hf_ga hf_rv (by simp)
  have n_ga_pa : ga ≠ pa := ne_e hf_ga hf_pa (by simp)
  have n_ga_rt : ga ≠ rt := ne_e hf_ga hf_rt (by simp)
  have n_ga_tp : ga ≠ tp := ne_e hf_ga hf_tp (by simp)
  have n_ra_sy : ra ≠ sy := ne_e hf_ra hf_sy (by simp)
  have n_ra_rv : ra ≠ rv := ne_e hf_ra hf_rv (by simp)
  have n_ra_pa : ra ≠ pa := ne_e hf_ra hf_pa (by simp)
  have n_ra_rt : ra ≠ rt := ne_e hf_ra hf_rt (by simp)
  have n_ra_tp : ra ≠ tp := ne_e hf_ra hf_tp (by simp)
  have n_sy_rv : sy ≠ rv := ne_e hf_sy hf_rv (by simp)
  have n_sy_pa : sy ≠ pa := ne_e hf_sy hf_pa (by simp)
  have n_sy_rt : sy ≠ rt := ne_e hf_sy hf_rt (by simp)
  have n_sy_tp : sy ≠ tp := ne_e hf_sy hf_tp (by simp)
  have n_rv_pa : rv ≠ pa := ne_e hf_rv hf_pa (by simp)
  have n_rv_tp : rv ≠ tp := ne_e hf_rv hf_tp (by simp)
  have n_pa_rt : pa ≠ rt := ne_e hf_pa hf_rt (by simp)
  have n_pa_tp : pa ≠ tp := ne_e hf_pa hf_tp (by simp)
  have n_rt_tp : rt ≠ tp := ne_e hf_rt hf_tp (by simp)
  have h0f_lo := hf_lo
  have h0f_al := hf_al
  have h0f_we := hf_we
  have h0f_ga := hf_ga
  have h0f_ra := hf_ra
  have h0f_sy := hf_sy
  have h0f_rv := hf_rv
  have h0f_pa := hf_pa
  have h0f_rt := hf_rt
  have h0f_tp := hf_tp
  have off9_lo : Off 9 tad taw lo := Off.of hT hf_lo (by simp) (by simp)
  have off9_al : Off 9 tad taw al := Off.of hT hf_al (by simp) (by simp)
  have off9_rv : Off 9 tad taw rv := Off.of hT hf_rv (by simp) (by simp)
  have off9_pa : Off 9 tad taw pa := Off.of hT hf_pa (by simp) (by simp)
  have off9_we : Off 9 tad taw we := Off.of hT hf_we (by simp) (by simp)
  have off9_ga : Off 9 tad taw ga := Off.of hT hf_ga (by simp) (by simp)
  have off9_ra : Off 9 tad taw ra := Off.of hT hf_ra (by simp) (by simp)
  have off9_rt : Off 9 tad taw rt := Off.of hT hf_rt (by simp) (by simp)
  have off9_tp : Off 9 tad taw tp := Off.of hT hf_tp (by simp) (by simp)
  have off9_sy : Off 9 tad taw sy := Off.ofI hT hf_sy hsyT
  have h0_hSg := hSg
  have h0_hV := hV
  have h0_hT := hT
  have off_lo : Off 6 ad aw lo := Off.of hV hf_lo (by simp) (by simp)
  have off_al : Off 6 ad aw al := Off.of hV hf_al (by simp) (by simp)
  have off_rv : Off 6 ad aw rv := Off.of hV hf_rv (by simp) (by simp)
  have off_pa : Off 6 ad aw pa := Off.of hV hf_pa (by simp) (by simp)
  have off_we : Off 6 ad aw we := Off.of hV hf_we (by simp) (by simp)
  have off_ga : Off 6 ad aw ga := Off.of hV hf_ga (by simp) (by simp)
  have off_ra : Off 6 ad aw ra := Off.of hV hf_ra (by simp) (by simp)
  have off_rt : Off 6 ad aw rt := Off.of hV hf_rt (by simp) (by simp)
  have off_tp : Off 6 ad aw tp := Off.of hV hf_tp (by simp) (by simp)
  have off_sy : Off 6 ad aw sy := Off.ofI hV hf_sy hsy
  refine lv_aload_n hx hb dX4_overtakes_0 rfl (lv_at hl 0 rfl) ?_
  refine pg_get (C := RX4) (T := TX4) (N := 6) hx hb hts hi_X4 hown hK hP hL_lo hf_lo rfl 2 (by decide) (hts (.fieldLink RX4 28 "BarometerLeague" "villages" "LBarometerLeague$VillageRow;") (by decide +kernel)) (fun _ h9 => h9) rfl dX4_overtakes_1 ?_
  refine lv_iload_n hx hb dX4_overtakes_4 rfl (lv_at hl 1 rfl) ?_
  refine tr_V (As := [.int v]) (rest := []) ⟨hx, hb, hml, hown, hts⟩ (m_X2_get l hst g L f _ hN _ _ _ _ _ ad aw v hL_rv hf_rv hL_pa hf_pa (by omega) hnv hpl) (cwV 1 hts gX4_overtakes_X2_get rfl rfl rfl (by decide +kernel) ⟨Nat.le_of_ble_eq_true rfl, Nat.le_of_ble_eq_true rfl⟩) hK hZ hP hS hL_rv hf_rv rfl rfl hl.1 rfl (Nat.le_of_ble_eq_true rfl) dX4_overtakes_5 ⟨(Nat.le_of_ble_eq_true rfl), (Nat.le_of_ble_eq_true rfl)⟩ (fun E ce q9 H locs hxc hP hS hce hcv hcl => hprop E ce q9 _ _ _ _ _ _ _ (Or.inl ⟨hxc.1, by rw [hxc.2]; rfl⟩) hP hS hce hcv hcl (Nat.le_of_ble_eq_true rfl) (Nat.le_of_ble_eq_true rfl)) (fun x5 H locs hr5 hP hS => ?_)
  obtain ⟨u, hu, rfl, rfl⟩ := hr5
  have q5 := hV u (by omega)
  obtain ⟨hL_ad_u, hf_ad_u, hL_aw_u, hf_aw_u⟩ := q5
  refine lv_astore_n (lv' := [(3, .ref (ad u)), (0, .ref lo), (1, .int (nI u)), (2, .int x)]) hx hb dX4_overtakes_8 rfl hl (by decide) rfl (fun ls hl => ?_)
  refine lv_aload_n hx hb dX4_overtakes_9 rfl (lv_at hl 1 rfl) ?_
  refine pg_get (C := RX4) (T := TX4) (N := 6) hx hb hts hi_X4 hown hK hP hL_lo hf_lo rfl 2 (by decide) (hts (.fieldLink RX4 28 "BarometerLeague" "villages" "LBarometerLeague$VillageRow;") (by decide +kernel)) (fun _ h9 => h9) rfl dX4_overtakes_10 ?_
  refine lv_iload_n hx hb dX4_overtakes_13 rfl (lv_at hl 3 rfl) ?_
  refine tr_V (As := [.int x]) (rest := []) ⟨hx, hb, hml, hown, hts⟩ (m_X2_get l hst g L f _ hN _ _ _ _ _ ad aw x hL_rv hf_rv hL_pa hf_pa (by omega) hnv hpl) (cwV 1 hts gX4_overtakes_X2_get rfl rfl rfl (by decide +kernel) ⟨Nat.le_of_ble_eq_true rfl, Nat.le_of_ble_eq_true rfl⟩) hK hZ hP hS hL_rv hf_rv rfl rfl hl.1 rfl (Nat.le_of_ble_eq_true rfl) dX4_overtakes_14 ⟨(Nat.le_of_ble_eq_true rfl), (Nat.le_of_ble_eq_true rfl)⟩ (fun E ce q9 H locs hxc hP hS hce hcv hcl => hprop E ce q9 _ _ _ _ _ _ _ (Or.inl ⟨hxc.1, by rw [hxc.2, Bool.and_false]⟩) hP hS hce hcv hcl (Nat.le_of_ble_eq_true rfl) (Nat.le_of_ble_eq_true rfl)) (fun x14 H locs hr14 hP hS => ?_)
  obtain ⟨w, hw, rfl, rfl⟩ := hr14
  have q14 := hV w (by omega)
  obtain ⟨hL_ad_w, hf_ad_w, hL_aw_w, hf_aw_w⟩ := q14
  refine lv_astore (lv' := [(4, .ref (ad w)), (3, .ref (ad u)), (0, .ref lo), (1, .int (nI u)), (2, .int (nI w))]) hx hb dX4_overtakes_17 hl (by decide) rfl (fun ls hl => ?_)
  refine lv_iload_n hx hb dX4_overtakes_19 rfl (lv_at hl 3 rfl) ?_
  refine lv_iload_n hx hb dX4_overtakes_20 rfl (lv_at hl 4 rfl) ?_
  refine tv_S (As := [.int (nI u), .int (nI w)]) (rest := []) ⟨hx, hb, hml, hown, hts⟩ (m_X4_requireTwo l hst g L f _ hN _ _ ) (va_cwS 2 hts gX4_overtakes_X4_requireTwo rfl rfl rfl (by decide +kernel) ⟨Nat.le_of_ble_eq_true rfl, Nat.le_of_ble_eq_true rfl⟩) hK hZ hP hS rfl hl.1 rfl (Nat.le_of_ble_eq_true rfl) dX4_overtakes_21 ⟨(Nat.le_of_ble_eq_true rfl), (Nat.le_of_ble_eq_true rfl)⟩ (fun E ce q9 H locs hxc hP hS hce hcv hcl => hprop E ce q9 _ _ _ _ _ _ _ (Or.inr ⟨hxc.1, by rw [inB_nI hu (by omega), inB_nI hw (by omega)]; rfl, hxc.2⟩) hP hS hce hcv hcl (Nat.le_of_ble_eq_true rfl) (Nat.le_of_ble_eq_true rfl)) (fun f21 H locs hr21 hP hS => ?_)
  obtain ⟨hr21, hq21⟩ := hr21
  rw [hq21] at hP
  have hne : u ≠ w := fun q => hr21 (by rw [q])
  refine lv_aload_n hx hb dX4_overtakes_24 rfl (lv_at hl 2 rfl) ?_
  refine pg_get (C := RX4) (T := TX4) (N := 6) hx hb hts hi_X4 hown hK hP hL_lo hf_lo rfl 5 (by decide) (hts (.fieldLink RX4 36 "BarometerLeague" "trials" "LBarometerLeague$VillageRow;") (by decide +kernel)) (fun _ h9 => h9) rfl dX4_overtakes_25 ?_
  refine rv_V (As := []) (rest := []) ⟨hx, hb, hml, hown, hts⟩ (m_X2_clear l g L f _ hN _ _ _ hL_rt hf_rt) (cwV 0 hts gX4_overtakes_X2_clear rfl rfl rfl (by decide +kernel) ⟨Nat.le_of_ble_eq_true rfl, Nat.le_of_ble_eq_true rfl⟩) hK hP hA hA2 hS hL_rt hf_rt rfl rfl hl.1 rfl (Nat.le_of_ble_eq_true rfl) dX4_overtakes_28 ⟨(Nat.le_of_ble_eq_true rfl), (Nat.le_of_ble_eq_true rfl)⟩ (fun f28 H locs hr28 hP hS => ?_)
  obtain ⟨hc28_0, hw28⟩ := hr28
  have hf_lo : f28 lo = eO 5 [.ref we, .ref al, .ref rv, .int (nI d), .ref sy, .ref rt] := hw28.get hf_lo (nm_c n_lo_rt (List.not_mem_nil))
  have hf_al : f28 al = eO 0 [.int mo, .ref ed, .int (nI n)] := hw28.get hf_al (nm_c n_al_rt (List.not_mem_nil))
  have hf_we : f28 we = eO 4 [.ref ga, .ref ra] := hw28.get hf_we (nm_c n_we_rt (List.not_mem_nil))
  have hf_ga : f28 ga = eI g 12 gl := hw28.get hf_ga (nm_c n_ga_rt (List.not_mem_nil))
  have hf_ra : f28 ra = eZ g 12 rn := hw28.get hf_ra (nm_c n_ra_rt (List.not_mem_nil))
  have hf_sy : f28 sy = eI g 8 sa := hw28.get hf_sy (nm_c n_sy_rt (List.not_mem_nil))
  have hf_rv : f28 rv = eO 3 [.ref pa, .int (nI nv)] := hw28.get hf_rv (nm_c n_rv_rt (List.not_mem_nil))
  have hf_pa : f28 pa = eV g 6 pl := hw28.get hf_pa (nm_c n_pa_rt (List.not_mem_nil))
  have hf_tp : f28 tp = eV g 9 tpl := hw28.get hf_tp (nm_c n_rt_tp.symm (List.not_mem_nil))
  have hf_ad_u : f28 (ad u) = eO 2 [.ref (aw u), .int ((vs u).1), .int ((vs u).2.1), .int ((vs u).2.2.1), .int ((vs u).2.2.2.1)] := hw28.get hf_ad_u (nm_c (off_rt u (by omega)).1.symm (List.not_mem_nil))
  have hf_aw_u : f28 (aw u) = eI g 8 ((vs u).2.2.2.2) := hw28.get hf_aw_u (nm_c (off_rt u (by omega)).2.symm (List.not_mem_nil))
  have hf_rt : f28 rt = eO 3 [.ref tp, .int (nI 0)] := hc28_0
  replace hFr : FrP f f28 rt sy 9 tad taw := hFr.lo hw28
  have hT := hT.fr1 hw28 off9_rt
  have hSg : Sgs g L f28 n ed so el kd nu := h0_hSg.frP hFr h0f_rt (by decide) h0f_sy h0_hT
  have hV : Vils g L f28 6 ad aw vs := h0_hV.frP hFr h0f_rt (by decide) h0f_sy hsy hX
  refine lv_aload_n hx hb dX4_overtakes_31 rfl (lv_at hl 2 rfl) ?_
  refine pg_get (C := RX4) (T := TX4) (N := 6) hx hb hts hi_X4 hown hK hP hL_lo hf_lo rfl 5 (by decide) (hts (.fieldLink RX4 36 "BarometerLeague" "trials" "LBarometerLeague$VillageRow;") (by decide +kernel)) (fun _ h9 => h9) rfl dX4_overtakes_32 ?_
  refine lv_aload_n hx hb dX4_overtakes_35 rfl (lv_at hl 1 rfl) ?_
  refine rv_V (As := [.ref (ad u)]) (rest := []) ⟨hx, hb, hml, hown, hts⟩ (m_X2_addCopy l g L f28 _ hN _ _ _ _ _ tad taw _ _ _ (vs u) hL_rt hf_rt hL_tp hf_tp hL_ad_u hf_ad_u hL_aw_u hf_aw_u (by omega) (by omega) hplT hT hDT (hX u (by omega)).1 (hX u (by omega)).2) (cwV 1 hts gX4_overtakes_X2_addCopy rfl rfl rfl (by decide +kernel) ⟨Nat.le_of_ble_eq_true rfl, Nat.le_of_ble_eq_true rfl⟩) hK hP hA hA2 hS hL_rt hf_rt rfl rfl hl.1 rfl (Nat.le_of_ble_eq_true rfl) dX4_overtakes_36 ⟨(Nat.le_of_ble_eq_true rfl), (Nat.le_of_ble_eq_true rfl)⟩ (fun f36 H locs hr36 hP hS => ?_)
  obtain ⟨hc36, hT, hw36⟩ := hr36
  replace hFr : FrP f f36 rt sy 9 tad taw := hFr.add (n := 0) (by omega) hw36
  have hf_lo : f36 lo = eO 5 [.ref we, .ref al, .ref rv, .int (nI d), .ref sy, .ref rt] := hFr.get h0f_lo (ne_e h0f_lo h0f_rt (by simp)) (ne_e h0f_lo h0f_sy (by simp)) off9_lo
  have hf_al : f36 al = eO 0 [.int mo, .ref ed, .int (nI n)] := hFr.get h0f_al (ne_e h0f_al h0f_rt (by simp)) (ne_e h0f_al h0f_sy (by simp)) off9_al
  have hf_we : f36 we = eO 4 [.ref ga, .ref ra] := hFr.get h0f_we (ne_e h0f_we h0f_rt (by simp)) (ne_e h0f_we h0f_sy (by simp)) off9_we
  have hf_ga : f36 ga = eI g 12 gl := hFr.get h0f_ga (ne_e h0f_ga h0f_rt (by simp)) (ne_e h0f_ga h0f_sy (by simp)) off9_ga
  have hf_ra : f36 ra = eZ g 12 rn := hFr.get h0f_ra (ne_e h0f_ra h0f_rt (by simp)) (ne_e h0f_ra h0f_sy (by simp)) off9_ra
  have hf_sy : f36 sy = eI g 8 sa := hw36.get hf_sy (nm_c (ne_e hf_sy hf_rt (by simp)) (nm_c (off9_sy 0 (by omega)).1 (nm_c (off9_sy 0 (by omega)).2 List.not_mem_nil)))
  have hf_rv : f36 rv = eO 3 [.ref pa, .int (nI nv)] := hFr.get h0f_rv n_rv_rt (ne_e h0f_rv h0f_sy (by simp)) off9_rv
  have hf_pa : f36 pa = eV g 6 pl := hFr.get h0f_pa (ne_e h0f_pa h0f_rt (by simp)) (ne_e h0f_pa h0f_sy (by simp)) off9_pa
  have hf_tp : f36 tp = eV g 9 tpl := hFr.get h0f_tp (ne_e h0f_tp h0f_rt (by simp)) (ne_e h0f_tp h0f_sy (by simp)) off9_tp
  have hf_rt : f36 rt = eO 3 [.ref tp, .int (nI 1)] := hc36
  have hSg : Sgs g L f36 n ed so el kd nu := h0_hSg.frP hFr h0f_rt (by decide) h0f_sy h0_hT
  have hV : Vils g L f36 6 ad aw vs := h0_hV.frP hFr h0f_rt (by decide) h0f_sy hsy hX
  have q36 := hV w (by omega)
  obtain ⟨hL_ad_w, hf_ad_w, hL_aw_w, hf_aw_w⟩ := q36
  refine lv_aload_n hx hb dX4_overtakes_39 rfl (lv_at hl 2 rfl) ?_
  refine pg_get (C := RX4) (T := TX4) (N := 6) hx hb hts hi_X4 hown hK hP hL_lo hf_lo rfl 5 (by decide) (hts (.fieldLink RX4 36 "BarometerLeague" "trials" "LBarometerLeague$VillageRow;") (by decide +kernel)) (fun _ h9 => h9) rfl dX4_overtakes_40 ?_
  refine lv_aload hx hb dX4_overtakes_43 (lv_at hl 0 rfl) ?_
  refine rv_V (As := [.ref (ad w)]) (rest := []) ⟨hx, hb, hml, hown, hts⟩ (m_X2_addCopy l g L f36 _ hN _ _ _ _ _ tad taw _ _ _ (vs w) hL_rt hf_rt hL_tp hf_tp hL_ad_w hf_ad_w hL_aw_w hf_aw_w (by omega) (by omega) hplT hT hDT (hX w (by omega)).1 (hX w (by omega)).2) (cwV 1 hts gX4_overtakes_X2_addCopy rfl rfl rfl (by decide +kernel) ⟨Nat.le_of_ble_eq_true rfl, Nat.le_of_ble_eq_true rfl⟩) hK hP hA hA2 hS hL_rt hf_rt rfl rfl hl.1 rfl (Nat.le_of_ble_eq_true rfl) dX4_overtakes_45 ⟨(Nat.le_of_ble_eq_true rfl), (Nat.le_of_ble_eq_true rfl)⟩ (fun f45 H locs hr45 hP hS => ?_)
  obtain ⟨hc45, hT, hw45⟩ := hr45
  replace hFr : FrP f f45 rt sy 9 tad taw := hFr.add (n := 1) (by omega) hw45
  have hf_lo : f45 lo = eO 5 [.ref we, .ref al, .ref rv, .int (nI d), .ref sy, .ref rt] := hFr.get h0f_lo (ne_e h0f_lo h0f_rt (by simp)) (ne_e h0f_lo h0f_sy (by simp)) off9_lo
  have hf_al : f45 al = eO 0 [.int mo, .ref ed, .int (nI n)] := hFr.get h0f_al (ne_e h0f_al h0f_rt (by simp)) (ne_e h0f_al h0f_sy (by simp)) off9_al
  have hf_we : f45 we = eO 4 [.ref ga, .ref ra] := hFr.get h0f_we (ne_e h0f_we h0f_rt (by simp)) (ne_e h0f_we h0f_sy (by simp)) off9_we
  have hf_ga : f45 ga = eI g 12 gl := hFr.get h0f_ga (ne_e h0f_ga h0f_rt (by simp)) (ne_e h0f_ga h0f_sy (by simp)) off9_ga
  have hf_ra : f45 ra = eZ g 12 rn := hFr.get h0f_ra (ne_e h0f_ra h0f_rt (by simp)) (ne_e h0f_ra h0f_sy (by simp)) off9_ra
  have hf_sy : f45 sy = eI g 8 sa := hw45.get hf_sy (nm_c (ne_e hf_sy hf_rt (by simp)) (nm_c (off9_sy 1 (by omega)).1 (nm_c (off9_sy 1 (by omega)).2 List.not_mem_nil)))
  have hf_rv : f45 rv = eO 3 [.ref pa, .int (nI nv)] := hFr.get h0f_rv n_rv_rt (ne_e h0f_rv h0f_sy (by simp)) off9_rv
  have hf_pa : f45 pa = eV g 6 pl := hFr.get h0f_pa (ne_e h0f_pa h0f_rt (by simp)) (ne_e h0f_pa h0f_sy (by simp)) off9_pa
  have hf_tp : f45 tp = eV g 9 tpl := hFr.get h0f_tp (ne_e h0f_tp h0f_rt (by simp)) (ne_e h0f_tp h0f_sy (by simp)) off9_tp
  have hf_rt : f45 rt = eO 3 [.ref tp, .int (nI 2)] := hc45
  have hSg : Sgs g L f45 n ed so el kd nu := h0_hSg.frP hFr h0f_rt (by decide) h0f_sy h0_hT
  have hV : Vils g L f45 6 ad aw vs := h0_hV.frP hFr h0f_rt (by decide) h0f_sy hsy hX
  have q45 := hV w (by omega)
  obtain ⟨hL_ad_w, hf_ad_w, hL_aw_w, hf_aw_w⟩ := q45
  refine lv_iconst (v := 0) hx hb dX4_overtakes_48 (by decide) ?_
  refine lv_istore (lv' := [(5, .int 0), (4, .ref (ad w)), (3, .ref (ad u)), (0, .ref lo), (1, .int (nI u)), (2, .int (nI w))]) hx hb dX4_overtakes_49 hl (by decide) rfl (fun ls hl => ?_)
  have hT : Vils g L f45 9 tad taw (itL kd nu gl rn n 2 d (sa, twoV tvs (vs u) (vs w)) 0).2 := hT
  have K51 : ∀ (n51 : Nat) (i : Nat) (f51 : Nat → va_E) (H : Heap) (locs : List Loc), 122 - i < n51 → i ≤ 121 → (∀ j, j < i → ahT kd nu gl rn n d (sa, twoV tvs (vs u) (vs w)) j = false) → Vils g L f51 9 tad taw (itL kd nu gl rn n 2 d (sa, twoV tvs (vs u) (vs w)) i).2 → f51 rt = eO 3 [.ref tp, .int (nI 2)] → f51 sy = eI g 8 ((itL kd nu gl rn n 2 d (sa, twoV tvs (vs u) (vs w)) i).1) → FrP f f51 rt sy 9 tad taw → PP g L f51 H → va_S (AA L s.heap.size) s.heap H locs → ∀ (ls : Array Slot), lv_has ls 6 [(5, .int (nI i)), (4, .ref (ad w)), (3, .ref (ad u)), (2, .int (nI w)), (1, .int (nI u)), (0, .ref lo)] → W p l e ({ frames := 7, cells := 250, slots := 1500, locals := 113 } : Room) s m args below meth c H locs (3 + 2 * i) (6 * (3 + 2 * i)) Q (F0 m 51 ls []) := by
    intro n51
    induction n51 with
    | zero => intros; omega
    | succ n51 ih51 =>
      intro i f51 H locs hm51 hi ha hT hq51_0 hq51_1 hFr hP hS ls hl
      have hf_lo : f51 lo = eO 5 [.ref we, .ref al, .ref rv, .int (nI d), .ref sy, .ref rt] := hFr.get h0f_lo (ne_e h0f_lo h0f_rt (by simp)) (ne_e h0f_lo h0f_sy (by simp)) off9_lo
      have hf_al : f51 al = eO 0 [.int mo, .ref ed, .int (nI n)] := hFr.get h0f_al (ne_e h0f_al h0f_rt (by simp)) (ne_e h0f_al h0f_sy (by simp)) off9_al
      have hf_we : f51 we = eO 4 [.ref ga, .ref ra] := hFr.get h0f_we (ne_e h0f_we h0f_rt (by simp)) (ne_e h0f_we h0f_sy (by simp)) off9_we
      have hf_ga : f51 ga = eI g 12 gl := hFr.get h0f_ga (ne_e h0f_ga h0f_rt (by simp)) (ne_e h0f_ga h0f_sy (by simp)) off9_ga
      have hf_ra : f51 ra = eZ g 12 rn := hFr.get h0f_ra (ne_e h0f_ra h0f_rt (by simp)) (ne_e h0f_ra h0f_sy (by simp)) off9_ra
      have hf_rv : f51 rv = eO 3 [.ref pa, .int (nI nv)] := hFr.get h0f_rv n_rv_rt (ne_e h0f_rv h0f_sy (by simp)) off9_rv
      have hf_pa : f51 pa = eV g 6 pl := hFr.get h0f_pa (ne_e h0f_pa h0f_rt (by simp)) (ne_e h0f_pa h0f_sy (by simp)) off9_pa
      have hf_tp : f51 tp = eV g 9 tpl := hFr.get h0f_tp (ne_e h0f_tp h0f_rt (by simp)) (ne_e h0f_tp h0f_sy (by simp)) off9_tp
      have hf_rt : f51 rt = eO 3 [.ref tp, .int (nI 2)] := hq51_0
      have hf_sy : f51 sy = eI g 8 ((itL kd nu gl rn n 2 d (sa, twoV tvs (vs u) (vs w)) i).1) := hq51_1
      have hSg : Sgs g L f51 n ed so el kd nu := h0_hSg.frP hFr h0f_rt (by decide) h0f_sy h0_hT
      have hV : Vils g L f51 6 ad aw vs := h0_hV.frP hFr h0f_rt (by decide) h0f_sy hsy hX
      have hf_sy0 := hf_sy
      refine lv_iload hx hb dX4_overtakes_51 (lv_at hl 0 rfl) ?_
      refine lv_bipush (v := 120) hx hb dX4_overtakes_53 (by decide) ?_
      refine lv_icmp_gt (tgt := 105) hx hb dX4_overtakes_55 (by decide) (fun c55 => ?_) (fun c55 => ?_)
      · skip
        have c55 : 120 < i := (nI_ltI (a := 120) (b := i) (by omega) (by omega)).mp (show nI 120 < nI i from c55)
        refine lv_iconst (v := (-1)) hx hb dX4_overtakes_105 (by decide) ?_
        exact hend ((-1)) f51 _ _ _ _ _ _ (⟨u, w, i, hu, rfl, hw, rfl, hne, Or.inr ⟨rfl, by omega, fun j hj => ha j (by omega)⟩, hf_rt, hf_sy, hT, hFr⟩) hP hS rfl (by show 3 + 2 * i ≤ 250; omega) (by show 6 * (3 + 2 * i) ≤ 1500; omega) dX4_overtakes_106
      · skip
        have c55 : ¬ 120 < i := fun h => c55 ((nI_ltI (a := 120) (b := i) (by omega) (by omega)).mpr h)
        refine lv_aload_n hx hb dX4_overtakes_58 rfl (lv_at hl 5 rfl) ?_
        refine pg_get (C := RX4) (T := TX4) (N := 6) hx hb hts hi_X4 hown hK hP hL_lo hf_lo rfl 5 (by decide) (hts (.fieldLink RX4 36 "BarometerLeague" "trials" "LBarometerLeague$VillageRow;") (by decide +kernel)) (fun _ h9 => h9) rfl dX4_overtakes_59 ?_
        refine lv_iconst (v := 0) hx hb dX4_overtakes_62 (by decide) ?_
        refine tr_V (As := [.int 0]) (rest := []) ⟨hx, hb, hml, hown, hts⟩ (m_X2_get l hst g L f51 _ hN _ _ _ _ _ tad taw _ hL_rt hf_rt hL_tp hf_tp (by omega) (by omega) hplT) (cwV 1 hts gX4_overtakes_X2_get rfl rfl rfl (by decide +kernel) ⟨Nat.le_of_ble_eq_true rfl, Nat.le_of_ble_eq_true rfl⟩) hK hZ hP hS hL_rt hf_rt rfl rfl hl.1 rfl (Nat.le_of_ble_eq_true rfl) dX4_overtakes_63 ⟨(by show 3 + 2 * i + 1 ≤ 250; omega), (by show 6 * (3 + 2 * i + 1) ≤ 1500; omega)⟩ (fun E ce q9 H locs hxc _ _ _ _ _ => by exfalso; exact absurd (hxc.2.symm.trans (show inB (nI 0) 2 = true from inB_nI (by omega) (by omega))) (by decide)) (fun x63 H locs hr63 hP hS => ?_)
        obtain ⟨i2, hi2, hii, rfl⟩ := hr63
        obtain rfl : i2 = 0 := ((nI_eq (a := 0) (b := i2) (by omega) (by omega)).mp (show nI 0 = nI i2 from hii)).symm
        obtain ⟨hL_tad_0, hf_tad_0, hL_taw_0, hf_taw_0⟩ : tad 0 ∈ L ∧ f51 (tad 0) = eO 2 [.ref (taw 0), .int (((itL kd nu gl rn n 2 d (sa, twoV tvs (vs u) (vs w)) i).2 0).1), .int (((itL kd nu gl rn n 2 d (sa, twoV tvs (vs u) (vs w)) i).2 0).2.1), .int (((itL kd nu gl rn n 2 d (sa, twoV tvs (vs u) (vs w)) i).2 0).2.2.1), .int (((itL kd nu gl rn n 2 d (sa, twoV tvs (vs u) (vs w)) i).2 0).2.2.2.1)] ∧ taw 0 ∈ L ∧ f51 (taw 0) = eI g 8 (((itL kd nu gl rn n 2 d (sa, twoV tvs (vs u) (vs w)) i).2 0).2.2.2.2) := hT 0 (by omega)
        refine lv_aload_n hx hb dX4_overtakes_66 rfl (lv_at hl 5 rfl) ?_
        refine pg_get (C := RX4) (T := TX4) (N := 6) hx hb hts hi_X4 hown hK hP hL_lo hf_lo rfl 5 (by decide) (hts (.fieldLink RX4 36 "BarometerLeague" "trials" "LBarometerLeague$VillageRow;") (by decide +kernel)) (fun _ h9 => h9) rfl dX4_overtakes_67 ?_
        refine lv_iconst (v := 1) hx hb dX4_overtakes_70 (by decide) ?_
        refine tr_V (As := [.int 1]) (rest := [.ref (tad 0)]) ⟨hx, hb, hml, hown, hts⟩ (m_X2_get l hst g L f51 _ hN _ _ _ _ _ tad taw _ hL_rt hf_rt hL_tp hf_tp (by omega) (by omega) hplT) (cwV 1 hts gX4_overtakes_X2_get rfl rfl rfl (by decide +kernel) ⟨Nat.le_of_ble_eq_true rfl, Nat.le_of_ble_eq_true rfl⟩) hK hZ hP hS hL_rt hf_rt rfl rfl hl.1 rfl (Nat.le_of_ble_eq_true rfl) dX4_overtakes_71 ⟨(by show 3 + 2 * i + 1 + 1 ≤ 250; omega), (by show 6 * (3 + 2 * i + 1 + 1) ≤ 1500; omega)⟩ (fun E ce q9 H locs hxc _ _ _ _ _ => by exfalso; exact absurd (hxc.2.symm.trans (show inB (nI 1) 2 = true from inB_nI (by omega) (by omega))) (by decide)) (fun x71 H locs hr71 hP hS => ?_)
        obtain ⟨i2, hi2, hii, rfl⟩ := hr71
        obtain rfl : i2 = 1 := ((nI_eq (a := 1) (b := i2) (by omega) (by omega)).mp (show nI 1 = nI i2 from hii)).symm
        obtain ⟨hL_tad_1, hf_tad_1, hL_taw_1, hf_taw_1⟩ : tad 1 ∈ L ∧ f51 (tad 1) = eO 2 [.ref (taw 1), .int (((itL kd nu gl rn n 2 d (sa, twoV tvs (vs u) (vs w)) i).2 1).1), .int (((itL kd nu gl rn n 2 d (sa, twoV tvs (vs u) (vs w)) i).2 1).2.1), .int (((itL kd nu gl rn n 2 d (sa, twoV tvs (vs u) (vs w)) i).2 1).2.2.1), .int (((itL kd nu gl rn n 2 d (sa, twoV tvs (vs u) (vs w)) i).2 1).2.2.2.1)] ∧ taw 1 ∈ L ∧ f51 (taw 1) = eI g 8 (((itL kd nu gl rn n 2 d (sa, twoV tvs (vs u) (vs w)) i).2 1).2.2.2.2) := hT 1 (by omega)
        refine ro_V (As := [.ref (tad 1)]) (rest := []) ⟨hx, hb, hml, hown, hts⟩ (m_X1_isAheadOf l g L f51 _ _ _ _ _ _ _ _ _ _ _ _ hL_tad_0 hf_tad_0 hL_tad_1 hf_tad_1) (cwV 1 hts gX4_overtakes_X1_isAheadOf rfl rfl rfl (by decide +kernel) ⟨Nat.le_of_ble_eq_true rfl, Nat.le_of_ble_eq_true rfl⟩) hK hP hL_tad_0 hf_tad_0 rfl rfl hl.1 rfl (Nat.le_of_ble_eq_true rfl) dX4_overtakes_74 ⟨(by show 3 + 2 * i + 1 + 1 ≤ 250; omega), (by show 6 * (3 + 2 * i + 1 + 1) ≤ 1500; omega)⟩ (fun r74 hr74 => ?_)
        have hr74 : r74 = b2i (ahT kd nu gl rn n d (sa, twoV tvs (vs u) (vs w)) i) := hr74
        subst hr74
        refine lv_if_eq (tgt := 83) hx hb dX4_overtakes_77 (by decide) (fun c77 => ?_) (fun c77 => ?_)
        · skip
          refine lv_aload_n hx hb dX4_overtakes_83 rfl (lv_at hl 5 rfl) ?_
          refine lv_aload_n hx hb dX4_overtakes_84 rfl (lv_at hl 5 rfl) ?_
          refine pg_get (C := RX4) (T := TX4) (N := 6) hx hb hts hi_X4 hown hK hP hL_lo hf_lo rfl 5 (by decide) (hts (.fieldLink RX4 36 "BarometerLeague" "trials" "LBarometerLeague$VillageRow;") (by decide +kernel)) (fun _ h9 => h9) rfl dX4_overtakes_85 ?_
          refine lv_aload_n hx hb dX4_overtakes_88 rfl (lv_at hl 5 rfl) ?_
          refine pg_get (C := RX4) (T := TX4) (N := 6) hx hb hts hi_X4 hown hK hP hL_lo hf_lo rfl 3 (by decide) (hts (.fieldLink RX4 165 "BarometerLeague" "day" "I") (by decide +kernel)) (fun _ h9 => h9) rfl dX4_overtakes_89 ?_
          refine lv_iload hx hb dX4_overtakes_92 (lv_at hl 0 rfl) ?_
          refine lv_iadd hx hb dX4_overtakes_94 ?_
          refine lv_topi (fun v94 ev94 => ?_)
          have ev94 : v94 = nI (d + i) := (ev94.trans (nat_add rfl rfl))
          subst ev94
          refine rw_V (As := [.ref rt, .int (nI (d + i))]) (rest := []) ⟨hx, hb, hml, hown, hts⟩ (m_X4_liveDay l g L f51 _ hN _ _ _ _ _ _ _ _ _ _ _ _ _ _ _ _ _ _ _ _ _ _ _ _ _ _ _ (d + i) hL_lo hf_lo hL_al hf_al hL_we hf_we hL_ga hf_ga hL_ra hf_ra hL_sy hf_sy hL_rt hf_rt hL_tp hf_tp hn hrn (by omega) hSg (by omega) (by omega) hplT hT hDT hsyT) (cwV 2 hts gX4_overtakes_X4_liveDay rfl rfl rfl (by decide +kernel) ⟨Nat.le_of_ble_eq_true rfl, Nat.le_of_ble_eq_true rfl⟩) hK hP hA hA2 hS hL_lo hf_lo rfl rfl hl.1 rfl (Nat.le_of_ble_eq_true rfl) dX4_overtakes_95 ⟨(by show 3 + 2 * i + 1 + 1 ≤ 250; omega), (by show 6 * (3 + 2 * i + 1 + 1) ≤ 1500; omega)⟩ (fun r95 f95 H locs hr95 hP hS => ?_)
          obtain ⟨hv95, hf_sy, hT, hw95⟩ := hr95
          have hf_lo : f95 lo = eO 5 [.ref we, .ref al, .ref rv, .int (nI d), .ref sy, .ref rt] := hw95.get hf_lo (ne_e hf_lo hf_sy0 (by simp)) off9_lo
          have hf_al : f95 al = eO 0 [.int mo, .ref ed, .int (nI n)] := hw95.get hf_al (ne_e hf_al hf_sy0 (by simp)) off9_al
          have hf_we : f95 we = eO 4 [.ref ga, .ref ra] := hw95.get hf_we (ne_e hf_we hf_sy0 (by simp)) off9_we
          have hf_ga : f95 ga = eI g 12 gl := hw95.get hf_ga (ne_e hf_ga hf_sy0 (by simp)) off9_ga
          have hf_ra : f95 ra = eZ g 12 rn := hw95.get hf_ra (ne_e hf_ra hf_sy0 (by simp)) off9_ra
          have hf_rv : f95 rv = eO 3 [.ref pa, .int (nI nv)] := hw95.get hf_rv (ne_e hf_rv hf_sy0 (by simp)) off9_rv
          have hf_pa : f95 pa = eV g 6 pl := hw95.get hf_pa (ne_e hf_pa hf_sy0 (by simp)) off9_pa
          have hf_rt : f95 rt = eO 3 [.ref tp, .int (nI 2)] := hw95.get hf_rt (ne_e hf_rt hf_sy0 (by simp)) off9_rt
          have hf_tp : f95 tp = eV g 9 tpl := hw95.get hf_tp (ne_e hf_tp hf_sy0 (by simp)) off9_tp
          replace hFr : FrP f f95 rt sy 9 tad taw := hFr.day hw95
          have hf_sy : f95 sy = eI g 8 (itL kd nu gl rn n 2 d (sa, twoV tvs (vs u) (vs w)) (i + 1)).1 := hf_sy
          have hT : Vils g L f95 9 tad taw (itL kd nu gl rn n 2 d (sa, twoV tvs (vs u) (vs w)) (i + 1)).2 := hT
          refine lv_pop hx hb dX4_overtakes_98 rfl ?_
          refine lv_iinc (v := nI (i + 1)) (lv' := [(5, .int (nI (i + 1))), (4, .ref (ad w)), (3, .ref (ad u)), (2, .int (nI w)), (1, .int (nI u)), (0, .ref lo)]) hx hb dX4_overtakes_99 hl (k := 0) rfl (nI_1 _) (by decide) rfl (fun ls hl => ?_)
          refine lv_goto (tgt := 51) hx hb dX4_overtakes_102 (by decide) ?_
          refine W.widen (k := 3 + 2 * (i + 1)) (n := 6 * (3 + 2 * (i + 1))) (by omega) (by omega) ?_
          exact ih51 (i + 1) f95 H locs (by omega) (by omega) (fun j hj => (Nat.lt_or_ge j i).elim (ha j) (fun z => by rw [show j = i from (by omega)]; exact b2i_0.mp c77)) (hT) hf_rt hf_sy hFr hP hS ls (lv_sub hl [0, 1, 2, 3, 4, 5] rfl)
        · skip
          refine lv_iload hx hb dX4_overtakes_80 (lv_at hl 0 rfl) ?_
          exact hend (nI i) f51 _ _ _ _ _ _ (⟨u, w, i, hu, rfl, hw, rfl, hne, Or.inl ⟨by omega, rfl, nz_t c77, ha⟩, hf_rt, hf_sy, hT, hFr⟩) hP hS rfl (by show 3 + 2 * i + 1 + 1 ≤ 250; omega) (by show 6 * (3 + 2 * i + 1 + 1) ≤ 1500; omega) dX4_overtakes_82
  refine W.widen (k := 3 + 2 * 0) (n := 6 * (3 + 2 * 0)) (by omega) (by omega) ?_
  exact K51 _ 0 f45 _ _ (Nat.lt_succ_self _) (Nat.zero_le _) (fun j hj => absurd hj (Nat.not_lt_zero j)) (hT) hf_rt hf_sy hFr hP hS ls (lv_sub hl [0, 1, 2, 5, 4, 3] rfl)

set_option maxHeartbeats 4000000 in
set_option maxRecDepth 100000 in
theorem m_X4_advise (l : Launch) (hst : l.stackTraces = false) (g : GG) (L : List Nat) (f : Nat → va_E) (sz : Nat) (hN : L.Nodup) (lo we al rv d sy rt ed n ga ra : Nat) (mo : Int32) (gl rn sa kd nu : Nat → Int32) (so : Nat → Nat) (el : Nat → Option Nat) (pa nv : Nat) (pl : Nat → Option Nat) (ad aw : Nat → Nat) (vs : Nat → VV) (tp : Nat) (tpl : Nat → Option Nat) (tad taw : Nat → Nat) (tvs : Nat → VV) (ts : Nat) (v x : Int32) (hL_lo : lo ∈ L) (hf_lo : f lo = eO 5 [.ref we, .ref al, .ref rv, .int (nI d), .ref sy, .ref rt]) (hL_al : al ∈ L) (hf_al : f al = eO 0 [.int mo, .ref ed, .int (nI n)]) (hL_we : we ∈ L) (hf_we : f we = eO 4 [.ref ga, .ref ra]) (hL_ga : ga ∈ L) (hf_ga : f ga = eI g 12 gl) (hL_ra : ra ∈ L) (hf_ra : f ra = eZ g 12 rn) (hL_sy : sy ∈ L) (hf_sy : f sy = eI g 8 sa) (hL_rv : rv ∈ L) (hf_rv : f rv = eO 3 [.ref pa, .int (nI nv)]) (hL_pa : pa ∈ L) (hf_pa : f pa = eV g 6 pl) (hL_rt : rt ∈ L) (hf_rt : f rt = eO 3 [.ref tp, .int (nI ts)]) (hL_tp : tp ∈ L) (hf_tp : f tp = eV g 9 tpl) (n_rv_rt : rv ≠ rt) (hn : n ≤ 8) (hrn : ∀ k, k < 12 → ∃ b, rn k = b2i b) (hSg : Sgs g L f n ed so el kd nu) (hnv : nv ≤ 6) (hpl : ∀ v, v < 6 → pl v = some (ad v)) (hV : Vils g L f 6 ad aw vs) (hd : d + 130 < 2 ^ 30) (hsy : ∀ v, v < 6 → sy ≠ aw v) (hplT : ∀ v, v < 9 → tpl v = some (tad v)) (hT : Vils g L f 9 tad taw tvs) (hDT : Dst 9 tad taw) (hX : ∀ v, v < 6 → Off 9 tad taw (ad v) ∧ Off 9 tad taw (aw v)) (hsyT : ∀ v, v < 9 → sy ≠ taw v) : TW l g yX4_advise wsX4_advise 7 137 40 240 L f sz [.ref lo, .int v, .int x] (fun r f2 => ∃ u k, u < nv ∧ v = nI u ∧ 1 ≤ k ∧ k ≤ 60 ∧ x = nI k ∧ r = (advF (fun t => ((itL kd nu gl rn n (n + 1) d (sa, adV (vs u) tvs n n) k).2 t).2.1) n).2 ∧ f2 rt = eO 3 [.ref tp, .int (nI (n + 1))] ∧ f2 sy = eI g 8 (itL kd nu gl rn n (n + 1) d (sa, adV (vs u) tvs n n) k).1 ∧ Vils g L f2 9 tad taw (itL kd nu gl rn n (n + 1) d (sa, adV (vs u) tvs n n) k).2 ∧ FrP f f2 rt sy 9 tad taw) (fun E => (E = "java/lang/IndexOutOfBoundsException" ∧ inB v nv = false) ∨ (E = "java/lang/IllegalArgumentException" ∧ inB v nv = true ∧ decide ((1 : Int32) ≤ x ∧ x ≤ nI 60) = false)) := by
  refine TW.start (cc := cX4_advise) (maxL := 6) (ret := .int) hst (by decide) rfl (by simp [lg_sl, Value.category]) (by decide) (by decide) ?_
  intro p e s m args below meth c Q ls hx hb hml hts hown hS hP hK hZ hl hend hthr hprop
  have hA : ∀ a ∈ L, AA L s.heap.size a := fun _ h => Or.inl h
  have hA2 : ∀ q, s.heap.size ≤ q → AA L s.heap.size q := fun _ h => Or.inr h
  have hl : lv_has ls 6 [(0, .ref lo), (1, .int v), (2, .int x)] := hl
  have hi_X1 : ∀ w ∈ u_ws RX1 TX1 5, w ∈ wsX4_advise := by decide +kernel
  have hi_X4 : ∀ w ∈ u_ws RX4 TX4 6, w ∈ wsX4_advise := by decide +kernel
  have hFr : FrP f f rt sy 9 tad taw := FrP.rf
  have n_lo_al : lo ≠ al := ne_e hf_lo hf_al (by simp)
  have n_lo_we : lo ≠ we := ne_e hf_lo hf_we (by simp)
  have n_lo_ga : lo ≠ ga := ne_e hf_lo hf_ga (by simp)
  have n_lo_ra : lo ≠ ra := ne_e hf_lo hf_ra (by simp)
  have n_lo_sy : lo ≠ sy := ne_e hf_lo hf_sy (by simp)
  have n_lo_rv : lo ≠ rv := ne_e hf_lo hf_rv (by simp)
  have n_lo_pa : lo ≠ pa := ne_e hf_lo hf_pa (by simp)
  have n_lo_rt : lo ≠ rt := ne_e hf_lo hf_rt (by simp)
  have n_lo_tp : lo ≠ tp := ne_e hf_lo hf_tp (by simp)
  have n_al_we : al ≠ we := ne_e hf_al hf_we (by simp)
  have n_al_ga : al ≠ ga := ne_e hf_al hf_ga (by simp)
  have n_al_ra : al ≠ ra := ne_e hf_al hf_ra (by simp)
  have n_al_sy : al ≠ sy := ne_e hf_al hf_sy (by simp)
  have n_al_rv : al ≠ rv := ne_e hf_al hf_rv (by simp)
  have n_al_pa : al ≠ pa := ne_e hf_al hf_pa (by simp)
  have n_al_rt : al ≠ rt := ne_e hf_al hf_rt (by simp)
  have n_al_tp : al ≠ tp := ne_e hf_al hf_tp (by simp)
  have n_we_ga : we ≠ ga := ne_e hf_we hf_ga (by simp)
  have n_we_ra : we ≠ ra := ne_e hf_we hf_ra (by simp)
  have n_we_sy : we ≠ sy := ne_e hf_we hf_sy (by simp)
  have n_we_rv : we ≠ rv := ne_e hf_we hf_rv (by simp)
  have n_we_pa : we ≠ pa := ne_e hf_we hf_pa (by simp)
  have n_we_rt : we ≠ rt := ne_e hf_we hf_rt (by simp)
  have n_we_tp : we ≠ tp := ne_e hf_we hf_tp (by simp)
  have n_ga_sy : ga ≠ sy := ne_e hf_ga hf_sy (by simp)
  have n_ga_rv : ga ≠ rv := ne_e hf_ga hf_rv (by simp)
  have n_ga_pa : ga ≠ pa := ne_e hf_ga hf_pa (by simp)
  have n_ga_rt : ga ≠ rt := ne_e hf_ga hf_rt (by simp)
  have n_ga_tp : ga ≠ tp := ne_e hf_ga hf_tp (by simp)
  have n_ra_sy : ra ≠ sy := ne_e hf_ra hf_sy (by simp)
  have n_ra_rv : ra ≠ rv := ne_e hf_ra hf_rv (by simp)
  have n_ra_pa : ra ≠ pa := ne_e hf_ra hf_pa (by simp)
  have n_ra_rt : ra ≠ rt := ne_e hf_ra hf_rt (by simp)
  have n_ra_tp : ra ≠ tp := ne_e hf_ra hf_tp (by simp)
  have n_sy_rv : sy ≠ rv := ne_e hf_sy hf_rv (by simp)
  have n_sy_pa : sy ≠ pa := ne_e hf_sy hf_pa (by simp)
  have n_sy_rt : sy ≠ rt := ne_e hf_sy hf_rt (by simp)
  have n_sy_tp : sy ≠ tp := ne_e hf_sy hf_tp (by simp)
  have n_rv_pa : rv ≠ pa := ne_e hf_rv hf_pa (by simp)
  have n_rv_tp : rv ≠ tp := ne_e hf_rv hf_tp (by simp)
  have n_pa_rt : pa ≠ rt := ne_e hf_pa hf_rt (by simp)
  have n_pa_tp : pa ≠ tp := ne_e hf_pa hf_tp (by simp)
  have n_rt_tp : rt ≠ tp := ne_e hf_rt hf_tp (by simp)
  have h0f_lo := hf_lo
  have h0f_al := hf_al
  have h0f_we := hf_we
  have h0f_ga := hf_ga
  have h0f_ra := hf_ra
  have h0f_sy := hf_sy
  have h0f_rv := hf_rv
  have h0f_pa := hf_pa
  have h0f_rt := hf_rt
  have h0f_tp := hf_tp
  have off9_lo : Off 9 tad taw lo := Off.of hT hf_lo (by simp) (by simp)
  have off9_al : Off 9 tad taw al := Off.of hT hf_al (by simp) (by simp)
  have off9_rv : Off 9 tad taw rv := Off.of hT hf_rv (by simp) (by simp)
  have off9_pa : Off 9 tad taw pa := Off.of hT hf_pa (by simp) (by simp)
  have off9_we : Off 9 tad taw we := Off.of hT hf_we (by simp) (by simp)
  have off9_ga : Off 9 tad taw ga := Off.of hT hf_ga (by simp) (by simp)
  have off9_ra : Off 9 tad taw ra := Off.of hT hf_ra (by simp) (by simp)
  have off9_rt : Off 9 tad taw rt := Off.of hT hf_rt (by simp) (by simp)
  have off9_tp : Off 9 tad taw tp := Off.of hT hf_tp (by simp) (by simp)
  have off9_sy : Off 9 tad taw sy := Off.ofI hT hf_sy hsyT
  have h0_hSg := hSg
  have h0_hV := hV
  have h0_hT := hT
  have off_lo : Off 6 ad aw lo := Off.of hV hf_lo (by simp) (by simp)
  have off_al : Off 6 ad aw al := Off.of hV hf_al (by simp) (by simp)
  have off_rv : Off 6 ad aw rv := Off.of hV hf_rv (by simp) (by simp)
  have off_pa : Off 6 ad aw pa := Off.of hV hf_pa (by simp) (by simp)
  have off_we : Off 6 ad aw we := Off.of hV hf_we (by simp) (by simp)
  have off_ga : Off 6 ad aw ga := Off.of hV hf_ga (by simp) (by simp)
  have off_ra : Off 6 ad aw ra := Off.of hV hf_ra (by simp) (by simp)
  have off_rt : Off 6 ad aw rt := Off.of hV hf_rt (by simp) (by simp)
  have off_tp : Off 6 ad aw tp := Off.of hV hf_tp (by simp) (by simp)
  have off_sy : Off 6 ad aw sy := Off.ofI hV hf_sy hsy
  refine lv_aload_n hx hb dX4_advise_0 rfl (lv_at hl 0 rfl) ?_
  refine pg_get (C := RX4) (T := TX4) (N := 6) hx hb hts hi_X4 hown hK hP hL_lo hf_lo rfl 2 (by decide) (hts (.fieldLink RX4 28 "BarometerLeague" "villages" "LBarometerLeague$VillageRow;") (by decide +kernel)) (fun _ h9 => h9) rfl dX4_advise_1 ?_
  refine lv_iload_n hx hb dX4_advise_4 rfl (lv_at hl 1 rfl) ?_
  refine tr_V (As := [.int v]) (rest := []) ⟨hx, hb, hml, hown, hts⟩ (m_X2_get l hst g L f _ hN _ _ _ _ _ ad aw v hL_rv hf_rv hL_pa hf_pa (by omega) hnv hpl) (cwV 1 hts gX4_advise_X2_get rfl rfl rfl (by decide +kernel) ⟨Nat.le_of_ble_eq_true rfl, Nat.le_of_ble_eq_true rfl⟩) hK hZ hP hS hL_rv hf_rv rfl rfl hl.1 rfl (Nat.le_of_ble_eq_true rfl) dX4_advise_5 ⟨(Nat.le_of_ble_eq_true rfl), (Nat.le_of_ble_eq_true rfl)⟩ (fun E ce q9 H locs hxc hP hS hce hcv hcl => hprop E ce q9 _ _ _ _ _ _ _ (Or.inl hxc) hP hS hce hcv hcl (Nat.le_of_ble_eq_true rfl) (Nat.le_of_ble_eq_true rfl)) (fun x5 H locs hr5 hP hS => ?_)
  obtain ⟨u, hu, rfl, rfl⟩ := hr5
  have q5 := hV u (by omega)
  obtain ⟨hL_ad_u, hf_ad_u, hL_aw_u, hf_aw_u⟩ := q5
  refine lv_astore_n (lv' := [(3, .ref (ad u)), (0, .ref lo), (1, .int (nI u)), (2, .int x)]) hx hb dX4_advise_8 rfl hl (by decide) rfl (fun ls hl => ?_)
  refine lv_iload_n hx hb dX4_advise_9 rfl (lv_at hl 3 rfl) ?_
  refine lv_bipush (v := 60) hx hb dX4_advise_10 (by decide) ?_
  refine tv_S (As := [.int x, .int 60]) (rest := []) ⟨hx, hb, hml, hown, hts⟩ (m_X4_requireDays l hst g L f _ hN x _ ) (va_cwS 2 hts gX4_advise_X4_requireDays rfl rfl rfl (by decide +kernel) ⟨Nat.le_of_ble_eq_true rfl, Nat.le_of_ble_eq_true rfl⟩) hK hZ hP hS rfl hl.1 rfl (Nat.le_of_ble_eq_true rfl) dX4_advise_12 ⟨(Nat.le_of_ble_eq_true rfl), (Nat.le_of_ble_eq_true rfl)⟩ (fun E ce q9 H locs hxc hP hS hce hcv hcl => hprop E ce q9 _ _ _ _ _ _ _ (Or.inr ⟨hxc.1, inB_nI hu (by omega), hxc.2⟩) hP hS hce hcv hcl (Nat.le_of_ble_eq_true rfl) (Nat.le_of_ble_eq_true rfl)) (fun f12 H locs hr12 hP hS => ?_)
  obtain ⟨hr12, hq12⟩ := hr12
  rw [hq12] at hP
  obtain ⟨k, hk1, hk2, rfl⟩ := dy_in (k := 60) (by omega) hr12
  refine lv_aload_n hx hb dX4_advise_15 rfl (lv_at hl 1 rfl) ?_
  refine pg_get (C := RX4) (T := TX4) (N := 6) hx hb hts hi_X4 hown hK hP hL_lo hf_lo rfl 5 (by decide) (hts (.fieldLink RX4 36 "BarometerLeague" "trials" "LBarometerLeague$VillageRow;") (by decide +kernel)) (fun _ h9 => h9) rfl dX4_advise_16 ?_
  refine rv_V (As := []) (rest := []) ⟨hx, hb, hml, hown, hts⟩ (m_X2_clear l g L f _ hN _ _ _ hL_rt hf_rt) (cwV 0 hts gX4_advise_X2_clear rfl rfl rfl (by decide +kernel) ⟨Nat.le_of_ble_eq_true rfl, Nat.le_of_ble_eq_true rfl⟩) hK hP hA hA2 hS hL_rt hf_rt rfl rfl hl.1 rfl (Nat.le_of_ble_eq_true rfl) dX4_advise_19 ⟨(Nat.le_of_ble_eq_true rfl), (Nat.le_of_ble_eq_true rfl)⟩ (fun f19 H locs hr19 hP hS => ?_)
  obtain ⟨hc19_0, hw19⟩ := hr19
  have hf_lo : f19 lo = eO 5 [.ref we, .ref al, .ref rv, .int (nI d), .ref sy, .ref rt] := hw19.get hf_lo (nm_c n_lo_rt (List.not_mem_nil))
  have hf_al : f19 al = eO 0 [.int mo, .ref ed, .int (nI n)] := hw19.get hf_al (nm_c n_al_rt (List.not_mem_nil))
  have hf_we : f19 we = eO 4 [.ref ga, .ref ra] := hw19.get hf_we (nm_c n_we_rt (List.not_mem_nil))
  have hf_ga : f19 ga = eI g 12 gl := hw19.get hf_ga (nm_c n_ga_rt (List.not_mem_nil))
  have hf_ra : f19 ra = eZ g 12 rn := hw19.get hf_ra (nm_c n_ra_rt (List.not_mem_nil))
  have hf_sy : f19 sy = eI g 8 sa := hw19.get hf_sy (nm_c n_sy_rt (List.not_mem_nil))
  have hf_rv : f19 rv = eO 3 [.ref pa, .int (nI nv)] := hw19.get hf_rv (nm_c n_rv_rt (List.not_mem_nil))
  have hf_pa : f19 pa = eV g 6 pl := hw19.get hf_pa (nm_c n_pa_rt (List.not_mem_nil))
  have hf_tp : f19 tp = eV g 9 tpl := hw19.get hf_tp (nm_c n_rt_tp.symm (List.not_mem_nil))
  have hf_ad_u : f19 (ad u) = eO 2 [.ref (aw u), .int ((vs u).1), .int ((vs u).2.1), .int ((vs u).2.2.1), .int ((vs u).2.2.2.1)] := hw19.get hf_ad_u (nm_c (off_rt u (by omega)).1.symm (List.not_mem_nil))
  have hf_aw_u : f19 (aw u) = eI g 8 ((vs u).2.2.2.2) := hw19.get hf_aw_u (nm_c (off_rt u (by omega)).2.symm (List.not_mem_nil))
  have hf_rt : f19 rt = eO 3 [.ref tp, .int (nI 0)] := hc19_0
  replace hFr : FrP f f19 rt sy 9 tad taw := hFr.lo hw19
  have hT := hT.fr1 hw19 off9_rt
  have hSg : Sgs g L f19 n ed so el kd nu := h0_hSg.frP hFr h0f_rt (by decide) h0f_sy h0_hT
  have hV : Vils g L f19 6 ad aw vs := h0_hV.frP hFr h0f_rt (by decide) h0f_sy hsy hX
  refine lv_iconst (v := 0) hx hb dX4_advise_22 (by decide) ?_
  refine lv_istore (lv' := [(4, .int 0), (3, .ref (ad u)), (0, .ref lo), (1, .int (nI u)), (2, .int (nI k))]) hx hb dX4_advise_23 hl (by decide) rfl (fun ls hl => ?_)
  have hT : Vils g L f19 9 tad taw (cpV (fun _ => vs u) tvs 0) := by rw [cpV_0]; exact hT
  have K25 : ∀ (n25 : Nat) (i : Nat) (f25 : Nat → va_E) (H : Heap) (locs : List Loc), n + 1 - i < n25 → i ≤ n + 1 → Vils g L f25 9 tad taw (cpV (fun _ => vs u) tvs i) → f25 rt = eO 3 [.ref tp, .int (nI i)] → f25 sy = eI g 8 sa → FrP f f25 rt sy 9 tad taw → PP g L f25 H → va_S (AA L s.heap.size) s.heap H locs → ∀ (ls : Array Slot), lv_has ls 6 [(4, .int (nI i)), (3, .ref (ad u)), (2, .int (nI k)), (1, .int (nI u)), (0, .ref lo)] → W p l e ({ frames := 7, cells := 40, slots := 240, locals := 137 } : Room) s m args below meth c H locs (2) (6 * (2)) Q (F0 m 25 ls []) := by
    intro n25
    induction n25 with
    | zero => intros; omega
    | succ n25 ih25 =>
      intro i f25 H locs hm25 hi hT hq25_0 hq25_1 hFr hP hS ls hl
      have hf_lo : f25 lo = eO 5 [.ref we, .ref al, .ref rv, .int (nI d), .ref sy, .ref rt] := hFr.get h0f_lo (ne_e h0f_lo h0f_rt (by simp)) (ne_e h0f_lo h0f_sy (by simp)) off9_lo
      have hf_al : f25 al = eO 0 [.int mo, .ref ed, .int (nI n)] := hFr.get h0f_al (ne_e h0f_al h0f_rt (by simp)) (ne_e h0f_al h0f_sy (by simp)) off9_al
      have hf_we : f25 we = eO 4 [.ref ga, .ref ra] := hFr.get h0f_we (ne_e h0f_we h0f_rt (by simp)) (ne_e h0f_we h0f_sy (by simp)) off9_we
      have hf_ga : f25 ga = eI g 12 gl := hFr.get h0f_ga (ne_e h0f_ga h0f_rt (by simp)) (ne_e h0f_ga h0f_sy (by simp)) off9_ga
      have hf_ra : f25 ra = eZ g 12 rn := hFr.get h0f_ra (ne_e h0f_ra h0f_rt (by simp)) (ne_e h0f_ra h0f_sy (by simp)) off9_ra
      have hf_rv : f25 rv = eO 3 [.ref pa, .int (nI nv)] := hFr.get h0f_rv n_rv_rt (ne_e h0f_rv h0f_sy (by simp)) off9_rv
      have hf_pa : f25 pa = eV g 6 pl := hFr.get h0f_pa (ne_e h0f_pa h0f_rt (by simp)) (ne_e h0f_pa h0f_sy (by simp)) off9_pa
      have hf_tp : f25 tp = eV g 9 tpl := hFr.get h0f_tp (ne_e h0f_tp h0f_rt (by simp)) (ne_e h0f_tp h0f_sy (by simp)) off9_tp
      have hf_rt : f25 rt = eO 3 [.ref tp, .int (nI i)] := hq25_0
      have hf_sy : f25 sy = eI g 8 sa := hq25_1
      have hSg : Sgs g L f25 n ed so el kd nu := h0_hSg.frP hFr h0f_rt (by decide) h0f_sy h0_hT
      have hV : Vils g L f25 6 ad aw vs := h0_hV.frP hFr h0f_rt (by decide) h0f_sy hsy hX
      refine lv_iload hx hb dX4_advise_25 (lv_at hl 0 rfl) ?_
      refine lv_aload_n hx hb dX4_advise_27 rfl (lv_at hl 4 rfl) ?_
      refine pg_get (C := RX4) (T := TX4) (N := 6) hx hb hts hi_X4 hown hK hP hL_lo hf_lo rfl 1 (by decide) (hts (.fieldLink RX4 19 "BarometerLeague" "signs" "Ljava/util/ArrayList;") (by decide +kernel)) (fun _ h9 => h9) rfl dX4_advise_28 ?_
      refine ro_V (As := []) (rest := [.int (nI i)]) ⟨hx, hb, hml, hown, hts⟩ (m_Jx4a65c_size_8abf5 l g L f25 _ _ _ _ hL_al hf_al) (cwV 0 hts gX4_advise_Jx4a65c_size_8abf5 rfl rfl rfl (by decide +kernel) ⟨Nat.le_of_ble_eq_true rfl, Nat.le_of_ble_eq_true rfl⟩) hK hP hL_al hf_al rfl rfl hl.1 rfl (Nat.le_of_ble_eq_true rfl) dX4_advise_31 ⟨(by show 2 ≤ 40; omega), (by show 6 * (2) ≤ 240; omega)⟩ (fun r31 hr31 => ?_)
      have hr31 : r31 = nI n := hr31
      subst hr31
      refine lv_icmp_gt (tgt := 51) hx hb dX4_advise_34 (by decide) (fun c34 => ?_) (fun c34 => ?_)
      · skip
        have c34 : n < i := (nI_ltI (a := n) (b := i) (by omega) (by omega)).mp (show nI n < nI i from c34)
        obtain rfl : i = n + 1 := by omega
        refine lv_iconst (v := 1) hx hb dX4_advise_51 (by decide) ?_
        refine lv_istore (lv' := [(4, .int 1), (3, .ref (ad u)), (2, .int (nI k)), (1, .int (nI u)), (0, .ref lo)]) hx hb dX4_advise_52 hl (by decide) rfl (fun ls hl => ?_)
        have hT : Vils g L f25 9 tad taw (adV (vs u) tvs n 0) := hT.congr (fun t _ => adV_0 (vs u) tvs n t)
        have K54 : ∀ (n54 : Nat) (i : Nat) (f54 : Nat → va_E) (H : Heap) (locs : List Loc), n + 1 - i < n54 → i ≤ n → Vils g L f54 9 tad taw (adV (vs u) tvs n i) → f54 rt = eO 3 [.ref tp, .int (nI (n + 1))] → f54 sy = eI g 8 sa → FrP f f54 rt sy 9 tad taw → PP g L f54 H → va_S (AA L s.heap.size) s.heap H locs → ∀ (ls : Array Slot), lv_has ls 6 [(4, .int (nI (i + 1))), (3, .ref (ad u)), (2, .int (nI k)), (1, .int (nI u)), (0, .ref lo)] → W p l e ({ frames := 7, cells := 40, slots := 240, locals := 137 } : Room) s m args below meth c H locs (2 + i) (6 * (2 + i)) Q (F0 m 54 ls []) := by
          intro n54
          induction n54 with
          | zero => intros; omega
          | succ n54 ih54 =>
            intro i f54 H locs hm54 hi hT hq54_0 hq54_1 hFr hP hS ls hl
            have hf_lo : f54 lo = eO 5 [.ref we, .ref al, .ref rv, .int (nI d), .ref sy, .ref rt] := hFr.get h0f_lo (ne_e h0f_lo h0f_rt (by simp)) (ne_e h0f_lo h0f_sy (by simp)) off9_lo
            have hf_al : f54 al = eO 0 [.int mo, .ref ed, .int (nI n)] := hFr.get h0f_al (ne_e h0f_al h0f_rt (by simp)) (ne_e h0f_al h0f_sy (by simp)) off9_al
            have hf_we : f54 we = eO 4 [.ref ga, .ref ra] := hFr.get h0f_we (ne_e h0f_we h0f_rt (by simp)) (ne_e h0f_we h0f_sy (by simp)) off9_we
            have hf_ga : f54 ga = eI g 12 gl := hFr.get h0f_ga (ne_e h0f_ga h0f_rt (by simp)) (ne_e h0f_ga h0f_sy (by simp)) off9_ga
            have hf_ra : f54 ra = eZ g 12 rn := hFr.get h0f_ra (ne_e h0f_ra h0f_rt (by simp)) (ne_e h0f_ra h0f_sy (by simp)) off9_ra
            have hf_rv : f54 rv = eO 3 [.ref pa, .int (nI nv)] := hFr.get h0f_rv n_rv_rt (ne_e h0f_rv h0f_sy (by simp)) off9_rv
            have hf_pa : f54 pa = eV g 6 pl := hFr.get h0f_pa (ne_e h0f_pa h0f_rt (by simp)) (ne_e h0f_pa h0f_sy (by simp)) off9_pa
            have hf_tp : f54 tp = eV g 9 tpl := hFr.get h0f_tp (ne_e h0f_tp h0f_rt (by simp)) (ne_e h0f_tp h0f_sy (by simp)) off9_tp
            have hf_rt : f54 rt = eO 3 [.ref tp, .int (nI (n + 1))] := hq54_0
            have hf_sy : f54 sy = eI g 8 sa := hq54_1
            have hSg : Sgs g L f54 n ed so el kd nu := h0_hSg.frP hFr h0f_rt (by decide) h0f_sy h0_hT
            have hV : Vils g L f54 6 ad aw vs := h0_hV.frP hFr h0f_rt (by decide) h0f_sy hsy hX
            refine lv_iload hx hb dX4_advise_54 (lv_at hl 0 rfl) ?_
            refine lv_aload_n hx hb dX4_advise_56 rfl (lv_at hl 4 rfl) ?_
            refine pg_get (C := RX4) (T := TX4) (N := 6) hx hb hts hi_X4 hown hK hP hL_lo hf_lo rfl 5 (by decide) (hts (.fieldLink RX4 36 "BarometerLeague" "trials" "LBarometerLeague$VillageRow;") (by decide +kernel)) (fun _ h9 => h9) rfl dX4_advise_57 ?_
            refine ro_V (As := []) (rest := [.int (nI (i + 1))]) ⟨hx, hb, hml, hown, hts⟩ (m_X2_size l g L f54 _ _ _ hL_rt hf_rt) (cwV 0 hts gX4_advise_X2_size rfl rfl rfl (by decide +kernel) ⟨Nat.le_of_ble_eq_true rfl, Nat.le_of_ble_eq_true rfl⟩) hK hP hL_rt hf_rt rfl rfl hl.1 rfl (Nat.le_of_ble_eq_true rfl) dX4_advise_60 ⟨(by show 2 + i ≤ 40; omega), (by show 6 * (2 + i) ≤ 240; omega)⟩ (fun r60 hr60 => ?_)
            have hr60 : r60 = nI (n + 1) := hr60
            subst hr60
            refine lv_icmp_ge (tgt := 89) hx hb dX4_advise_63 (by decide) (fun c63 => ?_) (fun c63 => ?_)
            · skip
              have c63 : n + 1 ≤ i + 1 := (nI_leI (a := n + 1) (b := i + 1) (by omega) (by omega)).mp (show nI (n + 1) ≤ nI (i + 1) from c63)
              obtain rfl : n = i := by omega
              have hf_sy0 := hf_sy
              refine lv_aload_n hx hb dX4_advise_89 rfl (lv_at hl 4 rfl) ?_
              refine lv_aload_n hx hb dX4_advise_90 rfl (lv_at hl 4 rfl) ?_
              refine pg_get (C := RX4) (T := TX4) (N := 6) hx hb hts hi_X4 hown hK hP hL_lo hf_lo rfl 5 (by decide) (hts (.fieldLink RX4 36 "BarometerLeague" "trials" "LBarometerLeague$VillageRow;") (by decide +kernel)) (fun _ h9 => h9) rfl dX4_advise_91 ?_
              refine lv_iload_n hx hb dX4_advise_94 rfl (lv_at hl 2 rfl) ?_
              refine rw_V (As := [.ref rt, .int (nI k)]) (rest := []) ⟨hx, hb, hml, hown, hts⟩ (m_X4_liveDays l g L f54 _ hN _ _ _ _ _ _ _ _ _ _ _ _ _ _ _ _ _ _ _ _ _ _ _ _ _ _ _ k hL_lo hf_lo hL_al hf_al hL_we hf_we hL_ga hf_ga hL_ra hf_ra hL_sy hf_sy hL_rt hf_rt hL_tp hf_tp hn hrn (by omega) hSg (by omega) (by omega) hplT hT hDT hsyT) (cwV 2 hts gX4_advise_X4_liveDays rfl rfl rfl (by decide +kernel) ⟨Nat.le_of_ble_eq_true rfl, Nat.le_of_ble_eq_true rfl⟩) hK hP hA hA2 hS hL_lo hf_lo rfl rfl hl.1 rfl (Nat.le_of_ble_eq_true rfl) dX4_advise_95 ⟨(by show 2 + n ≤ 40; omega), (by show 6 * (2 + n) ≤ 240; omega)⟩ (fun r95 f95 H locs hr95 hP hS => ?_)
              obtain ⟨hv95, hf_sy, hT, hw95⟩ := hr95
              have hf_lo : f95 lo = eO 5 [.ref we, .ref al, .ref rv, .int (nI d), .ref sy, .ref rt] := hw95.get hf_lo (ne_e hf_lo hf_sy0 (by simp)) off9_lo
              have hf_al : f95 al = eO 0 [.int mo, .ref ed, .int (nI n)] := hw95.get hf_al (ne_e hf_al hf_sy0 (by simp)) off9_al
              have hf_we : f95 we = eO 4 [.ref ga, .ref ra] := hw95.get hf_we (ne_e hf_we hf_sy0 (by simp)) off9_we
              have hf_ga : f95 ga = eI g 12 gl := hw95.get hf_ga (ne_e hf_ga hf_sy0 (by simp)) off9_ga
              have hf_ra : f95 ra = eZ g 12 rn := hw95.get hf_ra (ne_e hf_ra hf_sy0 (by simp)) off9_ra
              have hf_rv : f95 rv = eO 3 [.ref pa, .int (nI nv)] := hw95.get hf_rv (ne_e hf_rv hf_sy0 (by simp)) off9_rv
              have hf_pa : f95 pa = eV g 6 pl := hw95.get hf_pa (ne_e hf_pa hf_sy0 (by simp)) off9_pa
              have hf_rt : f95 rt = eO 3 [.ref tp, .int (nI (n + 1))] := hw95.get hf_rt (ne_e hf_rt hf_sy0 (by simp)) off9_rt
              have hf_tp : f95 tp = eV g 9 tpl := hw95.get hf_tp (ne_e hf_tp hf_sy0 (by simp)) off9_tp
              replace hFr : FrP f f95 rt sy 9 tad taw := hFr.day hw95
              obtain ⟨Yd, hYd⟩ : ∃ Yd, Yd = (itL kd nu gl rn n (n + 1) d (sa, adV (vs u) tvs n n) k) := ⟨_, rfl⟩
              rw [← hYd] at hf_sy hT
              refine lv_pop hx hb dX4_advise_98 rfl ?_
              refine lv_iconst (v := 0) hx hb dX4_advise_99 (by decide) ?_
              refine lv_istore (lv' := [(4, .int 0), (3, .ref (ad u)), (2, .int (nI k)), (1, .int (nI u)), (0, .ref lo)]) hx hb dX4_advise_100 hl (by decide) rfl (fun ls hl => ?_)
              refine lv_iconst (v := 1) hx hb dX4_advise_102 (by decide) ?_
              refine lv_istore (lv' := [(5, .int 1), (4, .int 0), (3, .ref (ad u)), (2, .int (nI k)), (1, .int (nI u)), (0, .ref lo)]) hx hb dX4_advise_103 hl (by decide) rfl (fun ls hl => ?_)
              have K105 : ∀ (n105 : Nat) (i : Nat) (mo : Nat) (H : Heap) (locs : List Loc), n + 1 - i < n105 → i ≤ n → mo ≤ i → (Yd.2 mo).2.1 = (advF (fun t => (Yd.2 t).2.1) i).1 → nI mo - 1 = (advF (fun t => (Yd.2 t).2.1) i).2 → PP g L f95 H → va_S (AA L s.heap.size) s.heap H locs → ∀ (ls : Array Slot), lv_has ls 6 [(5, .int (nI (i + 1))), (4, .int (nI mo)), (3, .ref (ad u)), (2, .int (nI k)), (1, .int (nI u)), (0, .ref lo)] → W p l e ({ frames := 7, cells := 40, slots := 240, locals := 137 } : Room) s m args below meth c H locs (10 + 2 * i) (6 * (10 + 2 * i)) Q (F0 m 105 ls []) := by
                intro n105
                induction n105 with
                | zero => intros; omega
                | succ n105 ih105 =>
                  intro i mo H locs hm105 hi hmo ha hb2 hP hS ls hl
                  refine lv_iload hx hb dX4_advise_105 (lv_at hl 0 rfl) ?_
                  refine lv_aload_n hx hb dX4_advise_107 rfl (lv_at hl 5 rfl) ?_
                  refine pg_get (C := RX4) (T := TX4) (N := 6) hx hb hts hi_X4 hown hK hP hL_lo hf_lo rfl 5 (by decide) (hts (.fieldLink RX4 36 "BarometerLeague" "trials" "LBarometerLeague$VillageRow;") (by decide +kernel)) (fun _ h9 => h9) rfl dX4_advise_108 ?_
                  refine ro_V (As := []) (rest := [.int (nI (i + 1))]) ⟨hx, hb, hml, hown, hts⟩ (m_X2_size l g L f95 _ _ _ hL_rt hf_rt) (cwV 0 hts gX4_advise_X2_size rfl rfl rfl (by decide +kernel) ⟨Nat.le_of_ble_eq_true rfl, Nat.le_of_ble_eq_true rfl⟩) hK hP hL_rt hf_rt rfl rfl hl.1 rfl (Nat.le_of_ble_eq_true rfl) dX4_advise_111 ⟨(by show 10 + 2 * i ≤ 40; omega), (by show 6 * (10 + 2 * i) ≤ 240; omega)⟩ (fun r111 hr111 => ?_)
                  have hr111 : r111 = nI (n + 1) := hr111
                  subst hr111
                  refine lv_icmp_ge (tgt := 154) hx hb dX4_advise_114 (by decide) (fun c114 => ?_) (fun c114 => ?_)
                  · skip
                    have c114 : n + 1 ≤ i + 1 := (nI_leI (a := n + 1) (b := i + 1) (by omega) (by omega)).mp (show nI (n + 1) ≤ nI (i + 1) from c114)
                    refine lv_iload hx hb dX4_advise_154 (lv_at hl 1 rfl) ?_
                    refine lv_iconst (v := 1) hx hb dX4_advise_156 (by decide) ?_
                    refine lv_isub hx hb dX4_advise_157 ?_
                    refine lv_topi (fun v157 ev157 => ?_)
                    exact hend (v157) f95 _ _ _ _ _ _ (⟨u, k, hu, rfl, hk1, hk2, rfl, by rw [← hYd, ev157, hb2, show i = n from (by omega)], hf_rt, hYd ▸ hf_sy, hYd ▸ hT, hFr⟩) hP hS rfl (by show 10 + 2 * i ≤ 40; omega) (by show 6 * (10 + 2 * i) ≤ 240; omega) dX4_advise_158
                  · skip
                    have c114 : ¬ n + 1 ≤ i + 1 := fun h => c114 ((nI_leI (a := n + 1) (b := i + 1) (by omega) (by omega)).mpr h)
                    refine lv_aload_n hx hb dX4_advise_117 rfl (lv_at hl 5 rfl) ?_
                    refine pg_get (C := RX4) (T := TX4) (N := 6) hx hb hts hi_X4 hown hK hP hL_lo hf_lo rfl 5 (by decide) (hts (.fieldLink RX4 36 "BarometerLeague" "trials" "LBarometerLeague$VillageRow;") (by decide +kernel)) (fun _ h9 => h9) rfl dX4_advise_118 ?_
                    refine lv_iload hx hb dX4_advise_121 (lv_at hl 0 rfl) ?_
                    refine tr_V (As := [.int (nI (i + 1))]) (rest := []) ⟨hx, hb, hml, hown, hts⟩ (m_X2_get l hst g L f95 _ hN _ _ _ _ _ tad taw _ hL_rt hf_rt hL_tp hf_tp (by omega) (by omega) hplT) (cwV 1 hts gX4_advise_X2_get rfl rfl rfl (by decide +kernel) ⟨Nat.le_of_ble_eq_true rfl, Nat.le_of_ble_eq_true rfl⟩) hK hZ hP hS hL_rt hf_rt rfl rfl hl.1 rfl (Nat.le_of_ble_eq_true rfl) dX4_advise_123 ⟨(by show 10 + 2 * i + 1 ≤ 40; omega), (by show 6 * (10 + 2 * i + 1) ≤ 240; omega)⟩ (fun E ce q9 H locs hxc _ _ _ _ _ => by exfalso; exact absurd (hxc.2.symm.trans (show inB (nI (i + 1)) (n + 1) = true from inB_nI (by omega) (by omega))) (by decide)) (fun x123 H locs hr123 hP hS => ?_)
                    obtain ⟨i2, hi2, hii, rfl⟩ := hr123
                    obtain rfl : i2 = i + 1 := ((nI_eq (a := i + 1) (b := i2) (by omega) (by omega)).mp (show nI (i + 1) = nI i2 from hii)).symm
                    obtain ⟨hL_tad__i___1, hf_tad__i___1, hL_taw__i___1, hf_taw__i___1⟩ : tad (i + 1) ∈ L ∧ f95 (tad (i + 1)) = eO 2 [.ref (taw (i + 1)), .int ((Yd.2 (i + 1)).1), .int ((Yd.2 (i + 1)).2.1), .int ((Yd.2 (i + 1)).2.2.1), .int ((Yd.2 (i + 1)).2.2.2.1)] ∧ taw (i + 1) ∈ L ∧ f95 (taw (i + 1)) = eI g 8 ((Yd.2 (i + 1)).2.2.2.2) := hT (i + 1) (by omega)
                    refine pg_getN (C := RX1) (T := TX1) (N := 5) hx hb hts hi_X1 hown hK hP hL_tad__i___1 hf_tad__i___1 rfl 2 (by decide) (hK.nest 1 rfl) (fun _ h9 => h9) rfl dX4_advise_126 ?_
                    refine lv_aload_n hx hb dX4_advise_129 rfl (lv_at hl 5 rfl) ?_
                    refine pg_get (C := RX4) (T := TX4) (N := 6) hx hb hts hi_X4 hown hK hP hL_lo hf_lo rfl 5 (by decide) (hts (.fieldLink RX4 36 "BarometerLeague" "trials" "LBarometerLeague$VillageRow;") (by decide +kernel)) (fun _ h9 => h9) rfl dX4_advise_130 ?_
                    refine lv_iload hx hb dX4_advise_133 (lv_at hl 1 rfl) ?_
                    refine tr_V (As := [.int (nI mo)]) (rest := [.int ((Yd.2 (i + 1)).2.1)]) ⟨hx, hb, hml, hown, hts⟩ (m_X2_get l hst g L f95 _ hN _ _ _ _ _ tad taw _ hL_rt hf_rt hL_tp hf_tp (by omega) (by omega) hplT) (cwV 1 hts gX4_advise_X2_get rfl rfl rfl (by decide +kernel) ⟨Nat.le_of_ble_eq_true rfl, Nat.le_of_ble_eq_true rfl⟩) hK hZ hP hS hL_rt hf_rt rfl rfl hl.1 rfl (Nat.le_of_ble_eq_true rfl) dX4_advise_135 ⟨(by show 10 + 2 * i + 1 + 1 ≤ 40; omega), (by show 6 * (10 + 2 * i + 1 + 1) ≤ 240; omega)⟩ (fun E ce q9 H locs hxc _ _ _ _ _ => by exfalso; exact absurd (hxc.2.symm.trans (show inB (nI mo) (n + 1) = true from inB_nI (by omega) (by omega))) (by decide)) (fun x135 H locs hr135 hP hS => ?_)
                    obtain ⟨i2, hi2, hii, rfl⟩ := hr135
                    obtain rfl : mo = i2 := (nI_eq (a := mo) (b := i2) (by omega) (by omega)).mp (show nI mo = nI i2 from hii)
                    obtain ⟨hL_tad_mo, hf_tad_mo, hL_taw_mo, hf_taw_mo⟩ : tad mo ∈ L ∧ f95 (tad mo) = eO 2 [.ref (taw mo), .int ((Yd.2 mo).1), .int ((Yd.2 mo).2.1), .int ((Yd.2 mo).2.2.1), .int ((Yd.2 mo).2.2.2.1)] ∧ taw mo ∈ L ∧ f95 (taw mo) = eI g 8 ((Yd.2 mo).2.2.2.2) := hT mo (by omega)
                    refine pg_getN (C := RX1) (T := TX1) (N := 5) hx hb hts hi_X1 hown hK hP hL_tad_mo hf_tad_mo rfl 2 (by decide) (hK.nest 1 rfl) (fun _ h9 => h9) rfl dX4_advise_138 ?_
                    refine lv_icmp_le (tgt := 148) hx hb dX4_advise_141 (by decide) (fun c141 => ?_) (fun c141 => ?_)
                    · skip
                      refine lv_iinc (v := nI (i + 1 + 1)) (lv' := [(5, .int (nI (i + 1 + 1))), (4, .int (nI mo)), (3, .ref (ad u)), (2, .int (nI k)), (1, .int (nI u)), (0, .ref lo)]) hx hb dX4_advise_148 hl (k := 0) rfl (nI_1 _) (by decide) rfl (fun ls hl => ?_)
                      refine lv_goto (tgt := 105) hx hb dX4_advise_151 (by decide) ?_
                      refine W.widen (k := 10 + 2 * (i + 1)) (n := 6 * (10 + 2 * (i + 1))) (by omega) (by omega) ?_
                      exact ih105 (i + 1) mo H locs (by omega) (by omega) (by omega) ((advF_f (P := fun t => (Yd.2 t).2.1) ha hb2 c141).1) ((advF_f (P := fun t => (Yd.2 t).2.1) ha hb2 c141).2) hP hS ls (lv_sub hl [0, 1, 2, 3, 4, 5] rfl)
                    · skip
                      refine lv_iload hx hb dX4_advise_144 (lv_at hl 0 rfl) ?_
                      refine lv_istore (lv' := [(4, .int (nI (i + 1))), (5, .int (nI (i + 1))), (3, .ref (ad u)), (2, .int (nI k)), (1, .int (nI u)), (0, .ref lo)]) hx hb dX4_advise_146 hl (by decide) rfl (fun ls hl => ?_)
                      refine lv_iinc (v := nI (i + 1 + 1)) (lv' := [(5, .int (nI (i + 1 + 1))), (4, .int (nI (i + 1))), (3, .ref (ad u)), (2, .int (nI k)), (1, .int (nI u)), (0, .ref lo)]) hx hb dX4_advise_148 hl (k := 1) rfl (nI_1 _) (by decide) rfl (fun ls hl => ?_)
                      refine lv_goto (tgt := 105) hx hb dX4_advise_151 (by decide) ?_
                      refine W.widen (k := 10 + 2 * (i + 1)) (n := 6 * (10 + 2 * (i + 1))) (by omega) (by omega) ?_
                      exact ih105 (i + 1) (i + 1) H locs (by omega) (by omega) (by omega) ((advF_t (P := fun t => (Yd.2 t).2.1) (b := 0) ha c141).1) ((nI_pred i).trans (advF_t (P := fun t => (Yd.2 t).2.1) (b := 0) ha c141).2) hP hS ls (lv_sub hl [0, 1, 2, 3, 4, 5] rfl)
              refine W.widen (k := 10 + 2 * 0) (n := 6 * (10 + 2 * 0)) (by omega) (by omega) ?_
              exact K105 _ 0 0 _ _ (Nat.lt_succ_self _) (Nat.zero_le _) (Nat.le_refl _) (rfl) (rfl) hP hS ls (lv_sub hl [0, 1, 2, 3, 4, 5] rfl)
            · skip
              have c63 : ¬ n + 1 ≤ i + 1 := fun h => c63 ((nI_leI (a := n + 1) (b := i + 1) (by omega) (by omega)).mpr h)
              refine lv_aload_n hx hb dX4_advise_66 rfl (lv_at hl 4 rfl) ?_
              refine pg_get (C := RX4) (T := TX4) (N := 6) hx hb hts hi_X4 hown hK hP hL_lo hf_lo rfl 5 (by decide) (hts (.fieldLink RX4 36 "BarometerLeague" "trials" "LBarometerLeague$VillageRow;") (by decide +kernel)) (fun _ h9 => h9) rfl dX4_advise_67 ?_
              refine lv_iload hx hb dX4_advise_70 (lv_at hl 0 rfl) ?_
              refine tr_V (As := [.int (nI (i + 1))]) (rest := []) ⟨hx, hb, hml, hown, hts⟩ (m_X2_get l hst g L f54 _ hN _ _ _ _ _ tad taw _ hL_rt hf_rt hL_tp hf_tp (by omega) (by omega) hplT) (cwV 1 hts gX4_advise_X2_get rfl rfl rfl (by decide +kernel) ⟨Nat.le_of_ble_eq_true rfl, Nat.le_of_ble_eq_true rfl⟩) hK hZ hP hS hL_rt hf_rt rfl rfl hl.1 rfl (Nat.le_of_ble_eq_true rfl) dX4_advise_72 ⟨(by show 2 + i + 1 ≤ 40; omega), (by show 6 * (2 + i + 1) ≤ 240; omega)⟩ (fun E ce q9 H locs hxc _ _ _ _ _ => by exfalso; exact absurd (hxc.2.symm.trans (show inB (nI (i + 1)) (n + 1) = true from inB_nI (by omega) (by omega))) (by decide)) (fun x72 H locs hr72 hP hS => ?_)
              obtain ⟨i2, hi2, hii, rfl⟩ := hr72
              obtain rfl : i2 = i + 1 := ((nI_eq (a := i + 1) (b := i2) (by omega) (by omega)).mp (show nI (i + 1) = nI i2 from hii)).symm
              obtain ⟨hL_tad__i___1, hf_tad__i___1, hL_taw__i___1, hf_taw__i___1⟩ : tad (i + 1) ∈ L ∧ f54 (tad (i + 1)) = eO 2 [.ref (taw (i + 1)), .int ((vs u).1), .int ((vs u).2.1), .int ((vs u).2.2.1), .int ((vs u).2.2.2.1)] ∧ taw (i + 1) ∈ L ∧ f54 (taw (i + 1)) = eI g 8 ((vs u).2.2.2.2) := by have z := hT (i + 1) (by omega); rw [adV_at (vs u) tvs (by omega)] at z; exact z
              refine lv_iload hx hb dX4_advise_75 (lv_at hl 0 rfl) ?_
              refine lv_iconst (v := 1) hx hb dX4_advise_77 (by decide) ?_
              refine lv_isub hx hb dX4_advise_78 ?_
              refine lv_topi (fun v78 ev78 => ?_)
              obtain rfl : v78 = nI i := ev78.trans (nI_pred i)
              refine lv_iconst (v := 0) hx hb dX4_advise_79 (by decide) ?_
              refine rv_V (As := [.int (nI i), .int 0]) (rest := []) ⟨hx, hb, hml, hown, hts⟩ (m_X1_putWeight l g L f54 _ hN _ _ _ _ _ _ _ i _ hL_tad__i___1 hf_tad__i___1 hL_taw__i___1 hf_taw__i___1 (by omega)) (cwV 2 hts gX4_advise_X1_putWeight rfl rfl rfl (by decide +kernel) ⟨Nat.le_of_ble_eq_true rfl, Nat.le_of_ble_eq_true rfl⟩) hK hP hA hA2 hS hL_tad__i___1 hf_tad__i___1 rfl rfl hl.1 rfl (Nat.le_of_ble_eq_true rfl) dX4_advise_80 ⟨(by show 2 + i + 1 ≤ 40; omega), (by show 6 * (2 + i + 1) ≤ 240; omega)⟩ (fun f80 H locs hr80 hP hS => ?_)
              obtain ⟨hc80, hw80⟩ := hr80
              have hf_lo : f80 lo = eO 5 [.ref we, .ref al, .ref rv, .int (nI d), .ref sy, .ref rt] := hw80.get hf_lo (nm_c (off9_lo (i + 1) (by omega)).2 List.not_mem_nil)
              have hf_al : f80 al = eO 0 [.int mo, .ref ed, .int (nI n)] := hw80.get hf_al (nm_c (off9_al (i + 1) (by omega)).2 List.not_mem_nil)
              have hf_we : f80 we = eO 4 [.ref ga, .ref ra] := hw80.get hf_we (nm_c (off9_we (i + 1) (by omega)).2 List.not_mem_nil)
              have hf_ga : f80 ga = eI g 12 gl := hw80.get hf_ga (nm_c (off9_ga (i + 1) (by omega)).2 List.not_mem_nil)
              have hf_ra : f80 ra = eZ g 12 rn := hw80.get hf_ra (nm_c (off9_ra (i + 1) (by omega)).2 List.not_mem_nil)
              have hf_sy : f80 sy = eI g 8 sa := hw80.get hf_sy (nm_c (off9_sy (i + 1) (by omega)).2 List.not_mem_nil)
              have hf_rv : f80 rv = eO 3 [.ref pa, .int (nI nv)] := hw80.get hf_rv (nm_c (off9_rv (i + 1) (by omega)).2 List.not_mem_nil)
              have hf_pa : f80 pa = eV g 6 pl := hw80.get hf_pa (nm_c (off9_pa (i + 1) (by omega)).2 List.not_mem_nil)
              have hf_rt : f80 rt = eO 3 [.ref tp, .int (nI (n + 1))] := hw80.get hf_rt (nm_c (off9_rt (i + 1) (by omega)).2 List.not_mem_nil)
              have hf_tp : f80 tp = eV g 9 tpl := hw80.get hf_tp (nm_c (off9_tp (i + 1) (by omega)).2 List.not_mem_nil)
              have hT := (hT.set2 hDT (v := i + 1) (by omega) (setW (vs u) (upd (vs u).2.2.2.2 i 0)) (by rw [hw80 _ (nm_c (hT.ne (by omega) (by omega)) List.not_mem_nil)]; exact hf_tad__i___1) hc80 (hw80.mono (by simp))).congr (vs2 := adV (vs u) tvs n (i + 1)) (fun t _ => adV_s (vs u) tvs (by omega) t)
              replace hFr : FrP f f80 rt sy 9 tad taw := hFr.w (n := i + 1) (by omega) hw80
              refine lv_iinc (v := nI (i + 1 + 1)) (lv' := [(4, .int (nI (i + 1 + 1))), (3, .ref (ad u)), (2, .int (nI k)), (1, .int (nI u)), (0, .ref lo)]) hx hb dX4_advise_83 hl (k := 0) rfl (nI_1 _) (by decide) rfl (fun ls hl => ?_)
              refine lv_goto (tgt := 54) hx hb dX4_advise_86 (by decide) ?_
              refine W.widen (k := 2 + (i + 1)) (n := 6 * (2 + (i + 1))) (by omega) (by omega) ?_
              exact ih54 (i + 1) f80 H locs (by omega) (by omega) (hT) hf_rt hf_sy hFr hP hS ls (lv_sub hl [0, 1, 2, 3, 4] rfl)
        refine W.widen (k := 2 + 0) (n := 6 * (2 + 0)) (by omega) (by omega) ?_
        exact K54 _ 0 f25 _ _ (Nat.lt_succ_self _) (Nat.zero_le _) (hT) hf_rt hf_sy hFr hP hS ls (lv_sub hl [0, 1, 2, 3, 4] rfl)
      · skip
        have c34 : ¬ n < i := fun h => c34 ((nI_ltI (a := n) (b := i) (by omega) (by omega)).mpr h)
        have q34 := hV u (by omega)
        obtain ⟨hL_ad_u, hf_ad_u, hL_aw_u, hf_aw_u⟩ := q34
        refine lv_aload_n hx hb dX4_advise_37 rfl (lv_at hl 4 rfl) ?_
        refine pg_get (C := RX4) (T := TX4) (N := 6) hx hb hts hi_X4 hown hK hP hL_lo hf_lo rfl 5 (by decide) (hts (.fieldLink RX4 36 "BarometerLeague" "trials" "LBarometerLeague$VillageRow;") (by decide +kernel)) (fun _ h9 => h9) rfl dX4_advise_38 ?_
        refine lv_aload_n hx hb dX4_advise_41 rfl (lv_at hl 1 rfl) ?_
        refine rv_V (As := [.ref (ad u)]) (rest := []) ⟨hx, hb, hml, hown, hts⟩ (m_X2_addCopy l g L f25 _ hN _ _ _ _ _ tad taw _ _ _ (vs u) hL_rt hf_rt hL_tp hf_tp hL_ad_u hf_ad_u hL_aw_u hf_aw_u (by omega) (by omega) hplT hT hDT (hX u (by omega)).1 (hX u (by omega)).2) (cwV 1 hts gX4_advise_X2_addCopy rfl rfl rfl (by decide +kernel) ⟨Nat.le_of_ble_eq_true rfl, Nat.le_of_ble_eq_true rfl⟩) hK hP hA hA2 hS hL_rt hf_rt rfl rfl hl.1 rfl (Nat.le_of_ble_eq_true rfl) dX4_advise_42 ⟨(by show 2 ≤ 40; omega), (by show 6 * (2) ≤ 240; omega)⟩ (fun f42 H locs hr42 hP hS => ?_)
        obtain ⟨hc42, hT, hw42⟩ := hr42
        replace hFr : FrP f f42 rt sy 9 tad taw := hFr.add (n := i) (by omega) hw42
        have hf_lo : f42 lo = eO 5 [.ref we, .ref al, .ref rv, .int (nI d), .ref sy, .ref rt] := hFr.get h0f_lo (ne_e h0f_lo h0f_rt (by simp)) (ne_e h0f_lo h0f_sy (by simp)) off9_lo
        have hf_al : f42 al = eO 0 [.int mo, .ref ed, .int (nI n)] := hFr.get h0f_al (ne_e h0f_al h0f_rt (by simp)) (ne_e h0f_al h0f_sy (by simp)) off9_al
        have hf_we : f42 we = eO 4 [.ref ga, .ref ra] := hFr.get h0f_we (ne_e h0f_we h0f_rt (by simp)) (ne_e h0f_we h0f_sy (by simp)) off9_we
        have hf_ga : f42 ga = eI g 12 gl := hFr.get h0f_ga (ne_e h0f_ga h0f_rt (by simp)) (ne_e h0f_ga h0f_sy (by simp)) off9_ga
        have hf_ra : f42 ra = eZ g 12 rn := hFr.get h0f_ra (ne_e h0f_ra h0f_rt (by simp)) (ne_e h0f_ra h0f_sy (by simp)) off9_ra
        have hf_sy : f42 sy = eI g 8 sa := hw42.get hf_sy (nm_c (ne_e hf_sy hf_rt (by simp)) (nm_c (off9_sy i (by omega)).1 (nm_c (off9_sy i (by omega)).2 List.not_mem_nil)))
        have hf_rv : f42 rv = eO 3 [.ref pa, .int (nI nv)] := hFr.get h0f_rv n_rv_rt (ne_e h0f_rv h0f_sy (by simp)) off9_rv
        have hf_pa : f42 pa = eV g 6 pl := hFr.get h0f_pa (ne_e h0f_pa h0f_rt (by simp)) (ne_e h0f_pa h0f_sy (by simp)) off9_pa
        have hf_tp : f42 tp = eV g 9 tpl := hFr.get h0f_tp (ne_e h0f_tp h0f_rt (by simp)) (ne_e h0f_tp h0f_sy (by simp)) off9_tp
        have hf_rt : f42 rt = eO 3 [.ref tp, .int (nI (i + 1))] := hc42
        have hSg : Sgs g L f42 n ed so el kd nu := h0_hSg.frP hFr h0f_rt (by decide) h0f_sy h0_hT
        have hV : Vils g L f42 6 ad aw vs := h0_hV.frP hFr h0f_rt (by decide) h0f_sy hsy hX
        have hT : Vils g L f42 9 tad taw (cpV (fun _ => vs u) tvs (i + 1)) := hT.congr (fun v _ => congrFun (cpV_s (fun _ => vs u) tvs i) v)
        refine lv_iinc (v := nI (i + 1)) (lv' := [(4, .int (nI (i + 1))), (3, .ref (ad u)), (2, .int (nI k)), (1, .int (nI u)), (0, .ref lo)]) hx hb dX4_advise_45 hl (k := 0) rfl (nI_1 _) (by decide) rfl (fun ls hl => ?_)
        refine lv_goto (tgt := 25) hx hb dX4_advise_48 (by decide) ?_
        refine W.widen (k := 2) (n := 6 * (2)) (by omega) (by omega) ?_
        exact ih25 (i + 1) f42 H locs (by omega) (by omega) (hT) hf_rt hf_sy hFr hP hS ls (lv_sub hl [0, 1, 2, 3, 4] rfl)
  refine W.widen (k := 2) (n := 6 * (2)) (by omega) (by omega) ?_
  exact K25 _ 0 f19 _ _ (Nat.lt_succ_self _) (Nat.zero_le _) (hT) hf_rt hf_sy hFr hP hS ls (lv_sub hl [0, 1, 4, 3, 2] rfl)
