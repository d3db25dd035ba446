set_option maxHeartbeats 4000000 in
set_option maxRecDepth 100000 in
theorem m_X4_weigh (l : Launch) (hst : l.stackTraces = false) (g : GG) (L : List Nat) (f : Nat → va_E) (sz : Nat) (hN : L.Nodup) (lo we al rv d sy rt ed n : Nat) (mo : Int32) (pa nv : Nat) (pl : Nat → Option Nat) (ad aw : Nat → Nat) (vs : Nat → VV) (v x w : Int32) (hL_lo : lo ∈ L) (hf_lo : f lo = eO 5 [.ref we, .ref al, .ref rv, .int (nI d), .ref sy, .ref rt]) (hL_al : al ∈ L) (hf_al : f al = eO 0 [.int mo, .ref ed, .int (nI n)]) (hL_rv : rv ∈ L) (hf_rv : f rv = eO 3 [.ref pa, .int (nI nv)]) (hL_pa : pa ∈ L) (hf_pa : f pa = eV g 6 pl) (hn : n ≤ 8) (hnv : nv ≤ 6) (hpl : ∀ v, v < 6 → pl v = some (ad v)) (hV : Vils g L f 6 ad aw vs) (hD : Dst 6 ad aw) : TW l g yX4_weigh wsX4_weigh 7 111 3 18 L f sz [.ref lo, .int v, .int x, .int w] (fun r f2 => ∃ u j, u < nv ∧ v = nI u ∧ j < n ∧ x = nI j ∧ inB w 101 = true ∧ r = (vs u).2.2.2.2 j ∧ Vils g L f2 6 ad aw (fun z => if z = u then setW (vs u) (upd (vs u).2.2.2.2 j w) else vs z) ∧ Fr f f2 [aw u]) (fun E => (E = "java/lang/IndexOutOfBoundsException" ∧ (inB v nv && inB x n) = false) ∨ (E = "java/lang/IllegalArgumentException" ∧ (inB v nv && inB x n) = true ∧ inB w 101 = false)) := by
  refine TW.start (cc := cX4_weigh) (maxL := 6) (ret := .int) hst (by decide) rfl (by simp [lg_sl, Value.category]) (by decide) (by decide) ?_
  intro p e s m args below meth c Q ls hx hb hml hts hown hS hP hK hZ hl hend hthr hprop
  have hA : ∀ a ∈ L, AA L s.heap.size a := fun _ h => Or.inl h
  have hA2 : ∀ q, s.heap.size ≤ q → AA L s.heap.size q := fun _ h => Or.inr h
  have hl : lv_has ls 6 [(0, .ref lo), (1, .int v), (2, .int x), (3, .int w)] := hl
  have hi_X4 : ∀ w ∈ u_ws RX4 TX4 6, w ∈ wsX4_weigh := by decide +kernel
  have hFr : Fr f f [] := Fr.rf
  have n_lo_al : lo ≠ al := ne_e hf_lo hf_al (by simp)
  have n_lo_rv : lo ≠ rv := ne_e hf_lo hf_rv (by simp)
  have n_lo_pa : lo ≠ pa := ne_e hf_lo hf_pa (by simp)
  have n_al_rv : al ≠ rv := ne_e hf_al hf_rv (by simp)
  have n_al_pa : al ≠ pa := ne_e hf_al hf_pa (by simp)
  have n_rv_pa : rv ≠ pa := ne_e hf_rv hf_pa (by simp)
  have h0f_lo := hf_lo
  have h0f_al := hf_al
  have h0f_rv := hf_rv
  have h0f_pa := hf_pa
  have off_lo : Off 6 ad aw lo := Off.of hV hf_lo (by simp) (by simp)
  have off_al : Off 6 ad aw al := Off.of hV hf_al (by simp) (by simp)
  have off_rv : Off 6 ad aw rv := Off.of hV hf_rv (by simp) (by simp)
  have off_pa : Off 6 ad aw pa := Off.of hV hf_pa (by simp) (by simp)
  refine lv_aload_n hx hb dX4_weigh_0 rfl (lv_at hl 0 rfl) ?_
  refine pg_get (C := RX4) (T := TX4) (N := 6) hx hb hts hi_X4 hown hK hP hL_lo hf_lo rfl 2 (by decide) (hts (.fieldLink RX4 28 "BarometerLeague" "villages" "LBarometerLeague$VillageRow;") (by decide +kernel)) (fun _ h9 => h9) rfl dX4_weigh_1 ?_
  refine lv_iload_n hx hb dX4_weigh_4 rfl (lv_at hl 1 rfl) ?_
  refine tr_V (As := [.int v]) (rest := []) ⟨hx, hb, hml, hown, hts⟩ (m_X2_get l hst g L f _ hN _ _ _ _ _ ad aw v hL_rv hf_rv hL_pa hf_pa (by omega) hnv hpl) (cwV 1 hts gX4_weigh_X2_get rfl rfl rfl (by decide +kernel) ⟨Nat.le_of_ble_eq_true rfl, Nat.le_of_ble_eq_true rfl⟩) hK hZ hP hS hL_rv hf_rv rfl rfl hl.1 rfl (Nat.le_of_ble_eq_true rfl) dX4_weigh_5 ⟨(Nat.le_of_ble_eq_true rfl), (Nat.le_of_ble_eq_true rfl)⟩ (fun E ce q9 H locs hxc hP hS hce hcv hcl => hprop E ce q9 _ _ _ _ _ _ _ (Or.inl ⟨hxc.1, by rw [hxc.2]; rfl⟩) hP hS hce hcv hcl (Nat.le_of_ble_eq_true rfl) (Nat.le_of_ble_eq_true rfl)) (fun x5 H locs hr5 hP hS => ?_)
  obtain ⟨u, hu, rfl, rfl⟩ := hr5
  have q5 := hV u (by omega)
  obtain ⟨hL_ad_u, hf_ad_u, hL_aw_u, hf_aw_u⟩ := q5
  refine lv_astore (lv' := [(4, .ref (ad u)), (0, .ref lo), (1, .int (nI u)), (2, .int x), (3, .int w)]) hx hb dX4_weigh_8 hl (by decide) rfl (fun ls hl => ?_)
  refine lv_aload_n hx hb dX4_weigh_10 rfl (lv_at hl 1 rfl) ?_
  refine lv_iload_n hx hb dX4_weigh_11 rfl (lv_at hl 3 rfl) ?_
  refine tv_V (As := [.int x]) (rest := []) ⟨hx, hb, hml, hown, hts⟩ (m_X4_requireSign l hst g L f _ hN _ _ _ _ _ _ _ _ _ _ x hL_lo hf_lo hL_al hf_al) (cwV 1 hts gX4_weigh_X4_requireSign rfl rfl rfl (by decide +kernel) ⟨Nat.le_of_ble_eq_true rfl, Nat.le_of_ble_eq_true rfl⟩) hK hZ hP hS hL_lo hf_lo rfl rfl hl.1 rfl (Nat.le_of_ble_eq_true rfl) dX4_weigh_12 ⟨(Nat.le_of_ble_eq_true rfl), (Nat.le_of_ble_eq_true rfl)⟩ (fun E ce q9 H locs hxc hP hS hce hcv hcl => hprop E ce q9 _ _ _ _ _ _ _ (Or.inl ⟨hxc.1, by rw [hxc.2, Bool.and_false]⟩) hP hS hce hcv hcl (Nat.le_of_ble_eq_true rfl) (Nat.le_of_ble_eq_true rfl)) (fun f12 H locs hr12 hP hS => ?_)
  obtain ⟨hr12, hq12⟩ := hr12
  rw [hq12] at hP
  refine lv_iload_n hx hb dX4_weigh_15 rfl (lv_at hl 4 rfl) ?_
  refine lv_if_lt (tgt := 25) hx hb dX4_weigh_16 (by decide) (fun c16 => ?_) (fun c16 => ?_)
  · skip
    exact hthr "java/lang/IllegalArgumentException" "a weight is 0 to 100" 57 9 42 103 46 _ _ _ _ 25 _ (Or.inr ⟨rfl, by rw [inB_nI hu (by omega), hr12]; rfl, le_out1 (k := 100) (by omega) c16⟩) hP hS (Nat.le_of_ble_eq_true rfl) (Nat.le_of_ble_eq_true rfl) (by decide +kernel) rfl rfl (hts (.classLink RX4 42 "java/lang/IllegalArgumentException") (by decide +kernel)) (hts (.initialized "java/lang/IllegalArgumentException") (by decide +kernel)) (by decide +kernel) (by decide +kernel) (by decide +kernel) hl.1 ⟨dX4_weigh_25, dX4_weigh_28, dX4_weigh_29, dX4_weigh_31, dX4_weigh_34⟩
  · skip
    refine lv_iload_n hx hb dX4_weigh_19 rfl (lv_at hl 4 rfl) ?_
    refine lv_bipush (v := 100) hx hb dX4_weigh_20 (by decide) ?_
    refine lv_icmp_le (tgt := 35) hx hb dX4_weigh_22 (by decide) (fun c22 => ?_) (fun c22 => ?_)
    · skip
      have hwi : inB w 101 = true := le_in (k := 100) (by omega) c16 c22
      obtain ⟨j, hj, rfl⟩ := inB_of hr12 (by omega)
      refine lv_aload hx hb dX4_weigh_35 (lv_at hl 0 rfl) ?_
      refine lv_iload_n hx hb dX4_weigh_37 rfl (lv_at hl 3 rfl) ?_
      refine ro_V (As := [.int (nI j)]) (rest := []) ⟨hx, hb, hml, hown, hts⟩ (m_X1_weightOf l g L f _ _ _ _ _ _ _ j hL_ad_u hf_ad_u hL_aw_u hf_aw_u (by omega)) (cwV 1 hts gX4_weigh_X1_weightOf rfl rfl rfl (by decide +kernel) ⟨Nat.le_of_ble_eq_true rfl, Nat.le_of_ble_eq_true rfl⟩) hK hP hL_ad_u hf_ad_u rfl rfl hl.1 rfl (Nat.le_of_ble_eq_true rfl) dX4_weigh_38 ⟨(Nat.le_of_ble_eq_true rfl), (Nat.le_of_ble_eq_true rfl)⟩ (fun r38 hr38 => ?_)
      have hr38 : r38 = (vs u).2.2.2.2 j := hr38
      subst hr38
      refine lv_istore (lv' := [(5, .int ((vs u).2.2.2.2 j)), (4, .ref (ad u)), (0, .ref lo), (1, .int (nI u)), (2, .int (nI j)), (3, .int w)]) hx hb dX4_weigh_41 hl (by decide) rfl (fun ls hl => ?_)
      refine lv_aload hx hb dX4_weigh_43 (lv_at hl 1 rfl) ?_
      refine lv_iload_n hx hb dX4_weigh_45 rfl (lv_at hl 4 rfl) ?_
      refine lv_iload_n hx hb dX4_weigh_46 rfl (lv_at hl 5 rfl) ?_
      refine rv_V (As := [.int (nI j), .int w]) (rest := []) ⟨hx, hb, hml, hown, hts⟩ (m_X1_putWeight l g L f _ hN _ _ _ _ _ _ _ j _ hL_ad_u hf_ad_u hL_aw_u hf_aw_u (by omega)) (cwV 2 hts gX4_weigh_X1_putWeight rfl rfl rfl (by decide +kernel) ⟨Nat.le_of_ble_eq_true rfl, Nat.le_of_ble_eq_true rfl⟩) hK hP hA hA2 hS hL_ad_u hf_ad_u rfl rfl hl.1 rfl (Nat.le_of_ble_eq_true rfl) dX4_weigh_47 ⟨(Nat.le_of_ble_eq_true rfl), (Nat.le_of_ble_eq_true rfl)⟩ (fun f47 H locs hr47 hP hS => ?_)
      obtain ⟨hc47, hw47⟩ := hr47
      have hf_lo : f47 lo = eO 5 [.ref we, .ref al, .ref rv, .int (nI d), .ref sy, .ref rt] := hw47.get hf_lo (nm_c (off_lo u (by omega)).2 (List.not_mem_nil))
      have hf_al : f47 al = eO 0 [.int mo, .ref ed, .int (nI n)] := hw47.get hf_al (nm_c (off_al u (by omega)).2 (List.not_mem_nil))
      have hf_rv : f47 rv = eO 3 [.ref pa, .int (nI nv)] := hw47.get hf_rv (nm_c (off_rv u (by omega)).2 (List.not_mem_nil))
      have hf_pa : f47 pa = eV g 6 pl := hw47.get hf_pa (nm_c (off_pa u (by omega)).2 (List.not_mem_nil))
      have hf_ad_u : f47 (ad u) = eO 2 [.ref (aw u), .int ((vs u).1), .int ((vs u).2.1), .int ((vs u).2.2.1), .int ((vs u).2.2.2.1)] := hw47.get hf_ad_u (nm_c (ne_e hf_ad_u hf_aw_u (by simp)) (List.not_mem_nil))
      have hV2 := hV.set2 hD (v := u) (by omega) (setW (vs u) (upd (vs u).2.2.2.2 j w)) hf_ad_u hc47 (hw47.mono (by simp))
      refine lv_iload hx hb dX4_weigh_50 (lv_at hl 0 rfl) ?_
      exact hend ((vs u).2.2.2.2 j) f47 _ _ _ _ _ _ (⟨u, j, hu, rfl, hj, rfl, hwi, rfl, hV2, hw47⟩) hP hS rfl (Nat.le_of_ble_eq_true rfl) (Nat.le_of_ble_eq_true rfl) dX4_weigh_52
    · skip
      exact hthr "java/lang/IllegalArgumentException" "a weight is 0 to 100" 57 9 42 103 46 _ _ _ _ 25 _ (Or.inr ⟨rfl, by rw [inB_nI hu (by omega), hr12]; rfl, le_out2 (k := 100) (by omega) c22⟩) hP hS (Nat.le_of_ble_eq_true rfl) (Nat.le_of_ble_eq_true rfl) (by decide +kernel) rfl rfl (hts (.classLink RX4 42 "java/lang/IllegalArgumentException") (by decide +kernel)) (hts (.initialized "java/lang/IllegalArgumentException") (by decide +kernel)) (by decide +kernel) (by decide +kernel) (by decide +kernel) hl.1 ⟨dX4_weigh_25, dX4_weigh_28, dX4_weigh_29, dX4_weigh_31, dX4_weigh_34⟩

set_option maxHeartbeats 4000000 in
set_option maxRecDepth 100000 in
theorem m_X4_share (l : Launch) (hst : l.stackTraces = false) (g : GG) (L : List Nat) (f : Nat → va_E) (sz : Nat) (hN : L.Nodup) (lo we al rv d sy rt ed n : Nat) (mo : Int32) (pa nv : Nat) (pl : Nat → Option Nat) (ad aw : Nat → Nat) (vs : Nat → VV) (v x : Int32) (hL_lo : lo ∈ L) (hf_lo : f lo = eO 5 [.ref we, .ref al, .ref rv, .int (nI d), .ref sy, .ref rt]) (hL_al : al ∈ L) (hf_al : f al = eO 0 [.int mo, .ref ed, .int (nI n)]) (hL_rv : rv ∈ L) (hf_rv : f rv = eO 3 [.ref pa, .int (nI nv)]) (hL_pa : pa ∈ L) (hf_pa : f pa = eV g 6 pl) (hnv : nv ≤ 6) (hpl : ∀ v, v < 6 → pl v = some (ad v)) (hV : Vils g L f 6 ad aw vs) (hD : Dst 6 ad aw) : TW l g yX4_share wsX4_share 7 111 4 24 L f sz [.ref lo, .int v, .int x] (fun r f2 => ∃ u w, u < nv ∧ v = nI u ∧ w < nv ∧ x = nI w ∧ u ≠ w ∧ ¬ (vs u).2.2.1 < 5 ∧ r = (vs u).2.2.1 - 5 ∧ Vils g L f2 6 ad aw (fun z => if z = u then buyU (vs u) (vs w) else if z = w then buyW (vs w) else vs z) ∧ Fr f f2 [ad u, aw u, ad w]) (fun E => (E = "java/lang/IndexOutOfBoundsException" ∧ (inB v nv && inB x nv) = false) ∨ (E = "java/lang/IllegalArgumentException" ∧ (inB v nv && inB x nv) = true ∧ v = x) ∨ (E = "java/lang/IllegalStateException" ∧ ∃ u w, u < nv ∧ v = nI u ∧ w < nv ∧ x = nI w ∧ u ≠ w ∧ (vs u).2.2.1 < 5)) := by
  refine TW.start (cc := cX4_share) (maxL := 5) (ret := .int) hst (by decide) rfl (by simp [lg_sl, Value.category]) (by decide) (by decide) ?_
  intro p e s m args below meth c Q ls hx hb hml hts hown hS hP hK hZ hl hend hthr hprop
  have hA : ∀ a ∈ L, AA L s.heap.size a := fun _ h => Or.inl h
  have hA2 : ∀ q, s.heap.size ≤ q → AA L s.heap.size q := fun _ h => Or.inr h
  have hl : lv_has ls 5 [(0, .ref lo), (1, .int v), (2, .int x)] := hl
  have hi_X1 : ∀ w ∈ u_ws RX1 TX1 5, w ∈ wsX4_share := by decide +kernel
  have hi_X4 : ∀ w ∈ u_ws RX4 TX4 6, w ∈ wsX4_share := by decide +kernel
  have hFr : Fr f f [] := Fr.rf
  have n_lo_al : lo ≠ al := ne_e hf_lo hf_al (by simp)
  have n_lo_rv : lo ≠ rv := ne_e hf_lo hf_rv (by simp)
  have n_lo_pa : lo ≠ pa := ne_e hf_lo hf_pa (by simp)
  have n_al_rv : al ≠ rv := ne_e hf_al hf_rv (by simp)
  have n_al_pa : al ≠ pa := ne_e hf_al hf_pa (by simp)
  have n_rv_pa : rv ≠ pa := ne_e hf_rv hf_pa (by simp)
  have h0f_lo := hf_lo
  have h0f_al := hf_al
  have h0f_rv := hf_rv
  have h0f_pa := hf_pa
  refine lv_aload_n hx hb dX4_share_0 rfl (lv_at hl 0 rfl) ?_
  refine pg_get (C := RX4) (T := TX4) (N := 6) hx hb hts hi_X4 hown hK hP hL_lo hf_lo rfl 2 (by decide) (hts (.fieldLink RX4 28 "BarometerLeague" "villages" "LBarometerLeague$VillageRow;") (by decide +kernel)) (fun _ h9 => h9) rfl dX4_share_1 ?_
  refine lv_iload_n hx hb dX4_share_4 rfl (lv_at hl 1 rfl) ?_
  refine tr_V (As := [.int v]) (rest := []) ⟨hx, hb, hml, hown, hts⟩ (m_X2_get l hst g L f _ hN _ _ _ _ _ ad aw v hL_rv hf_rv hL_pa hf_pa (by omega) hnv hpl) (cwV 1 hts gX4_share_X2_get rfl rfl rfl (by decide +kernel) ⟨Nat.le_of_ble_eq_true rfl, Nat.le_of_ble_eq_true rfl⟩) hK hZ hP hS hL_rv hf_rv rfl rfl hl.1 rfl (Nat.le_of_ble_eq_true rfl) dX4_share_5 ⟨(Nat.le_of_ble_eq_true rfl), (Nat.le_of_ble_eq_true rfl)⟩ (fun E ce q9 H locs hxc hP hS hce hcv hcl => hprop E ce q9 _ _ _ _ _ _ _ (Or.inl ⟨hxc.1, by rw [hxc.2]; rfl⟩) hP hS hce hcv hcl (Nat.le_of_ble_eq_true rfl) (Nat.le_of_ble_eq_true rfl)) (fun x5 H locs hr5 hP hS => ?_)
  obtain ⟨u, hu, rfl, rfl⟩ := hr5
  have q5 := hV u (by omega)
  obtain ⟨hL_ad_u, hf_ad_u, hL_aw_u, hf_aw_u⟩ := q5
  refine lv_astore_n (lv' := [(3, .ref (ad u)), (0, .ref lo), (1, .int (nI u)), (2, .int x)]) hx hb dX4_share_8 rfl hl (by decide) rfl (fun ls hl => ?_)
  refine lv_aload_n hx hb dX4_share_9 rfl (lv_at hl 1 rfl) ?_
  refine pg_get (C := RX4) (T := TX4) (N := 6) hx hb hts hi_X4 hown hK hP hL_lo hf_lo rfl 2 (by decide) (hts (.fieldLink RX4 28 "BarometerLeague" "villages" "LBarometerLeague$VillageRow;") (by decide +kernel)) (fun _ h9 => h9) rfl dX4_share_10 ?_
  refine lv_iload_n hx hb dX4_share_13 rfl (lv_at hl 3 rfl) ?_
  refine tr_V (As := [.int x]) (rest := []) ⟨hx, hb, hml, hown, hts⟩ (m_X2_get l hst g L f _ hN _ _ _ _ _ ad aw x hL_rv hf_rv hL_pa hf_pa (by omega) hnv hpl) (cwV 1 hts gX4_share_X2_get rfl rfl rfl (by decide +kernel) ⟨Nat.le_of_ble_eq_true rfl, Nat.le_of_ble_eq_true rfl⟩) hK hZ hP hS hL_rv hf_rv rfl rfl hl.1 rfl (Nat.le_of_ble_eq_true rfl) dX4_share_14 ⟨(Nat.le_of_ble_eq_true rfl), (Nat.le_of_ble_eq_true rfl)⟩ (fun E ce q9 H locs hxc hP hS hce hcv hcl => hprop E ce q9 _ _ _ _ _ _ _ (Or.inl ⟨hxc.1, by rw [hxc.2, Bool.and_false]⟩) hP hS hce hcv hcl (Nat.le_of_ble_eq_true rfl) (Nat.le_of_ble_eq_true rfl)) (fun x14 H locs hr14 hP hS => ?_)
  obtain ⟨w, hw, rfl, rfl⟩ := hr14
  have q14 := hV w (by omega)
  obtain ⟨hL_ad_w, hf_ad_w, hL_aw_w, hf_aw_w⟩ := q14
  refine lv_astore (lv' := [(4, .ref (ad w)), (3, .ref (ad u)), (0, .ref lo), (1, .int (nI u)), (2, .int (nI w))]) hx hb dX4_share_17 hl (by decide) rfl (fun ls hl => ?_)
  refine lv_iload_n hx hb dX4_share_19 rfl (lv_at hl 3 rfl) ?_
  refine lv_iload_n hx hb dX4_share_20 rfl (lv_at hl 4 rfl) ?_
  refine tv_S (As := [.int (nI u), .int (nI w)]) (rest := []) ⟨hx, hb, hml, hown, hts⟩ (m_X4_requireTwo l hst g L f _ hN _ _ ) (va_cwS 2 hts gX4_share_X4_requireTwo rfl rfl rfl (by decide +kernel) ⟨Nat.le_of_ble_eq_true rfl, Nat.le_of_ble_eq_true rfl⟩) hK hZ hP hS rfl hl.1 rfl (Nat.le_of_ble_eq_true rfl) dX4_share_21 ⟨(Nat.le_of_ble_eq_true rfl), (Nat.le_of_ble_eq_true rfl)⟩ (fun E ce q9 H locs hxc hP hS hce hcv hcl => hprop E ce q9 _ _ _ _ _ _ _ (Or.inr (Or.inl ⟨hxc.1, by rw [inB_nI hu (by omega), inB_nI hw (by omega)]; rfl, hxc.2⟩)) hP hS hce hcv hcl (Nat.le_of_ble_eq_true rfl) (Nat.le_of_ble_eq_true rfl)) (fun f21 H locs hr21 hP hS => ?_)
  obtain ⟨hr21, hq21⟩ := hr21
  rw [hq21] at hP
  have hne : u ≠ w := fun q => hr21 (by rw [q])
  refine lv_aload_n hx hb dX4_share_24 rfl (lv_at hl 1 rfl) ?_
  refine pg_getN (C := RX1) (T := TX1) (N := 5) hx hb hts hi_X1 hown hK hP hL_ad_u hf_ad_u rfl 3 (by decide) (hK.nest 2 rfl) (fun _ h9 => h9) rfl dX4_share_25 ?_
  refine lv_iconst (v := 5) hx hb dX4_share_28 (by decide) ?_
  refine lv_icmp_ge (tgt := 42) hx hb dX4_share_29 (by decide) (fun c29 => ?_) (fun c29 => ?_)
  · skip
    refine lv_aload_n hx hb dX4_share_42 rfl (lv_at hl 1 rfl) ?_
    refine lv_aload hx hb dX4_share_43 (lv_at hl 0 rfl) ?_
    refine rv_V (As := [.ref (ad w)]) (rest := []) ⟨hx, hb, hml, hown, hts⟩ (m_X1_buyWeightsOf l g L f _ hN _ _ _ _ _ _ _ _ _ _ _ _ _ _ hL_ad_u hf_ad_u hL_aw_u hf_aw_u hL_ad_w hf_ad_w hL_aw_w hf_aw_w (hD u w (by omega) (by omega) hne).1 (hD u w (by omega) (by omega) hne).2) (cwV 1 hts gX4_share_X1_buyWeightsOf rfl rfl rfl (by decide +kernel) ⟨Nat.le_of_ble_eq_true rfl, Nat.le_of_ble_eq_true rfl⟩) hK hP hA hA2 hS hL_ad_u hf_ad_u rfl rfl hl.1 rfl (Nat.le_of_ble_eq_true rfl) dX4_share_45 ⟨(Nat.le_of_ble_eq_true rfl), (Nat.le_of_ble_eq_true rfl)⟩ (fun f45 H locs hr45 hP hS => ?_)
    obtain ⟨hc45_0, hc45_1, hc45_2, hw45⟩ := hr45
    have hV2 := hV.share hD (u := u) (w := w) (by omega) (by omega) hne (U := buyU (vs u) (vs w)) (W := buyW (vs w)) hc45_0 hc45_1 hc45_2 rfl hw45
    have hf_ad_u : f45 (ad u) = eO 2 [.ref (aw u), .int (vs u).1, .int (vs u).2.1, .int ((vs u).2.2.1 - 5), .int (vs u).2.2.2.1] := hc45_0
    refine lv_aload_n hx hb dX4_share_48 rfl (lv_at hl 1 rfl) ?_
    refine pg_getN (C := RX1) (T := TX1) (N := 5) hx hb hts hi_X1 hown hK hP hL_ad_u hf_ad_u rfl 3 (by decide) (hK.nest 2 rfl) (fun _ h9 => h9) rfl dX4_share_49 ?_
    exact hend ((vs u).2.2.1 - 5) f45 _ _ _ _ _ _ (⟨u, w, hu, rfl, hw, rfl, hne, Int32.not_lt.mpr c29, rfl, hV2, hw45⟩) hP hS rfl (Nat.le_of_ble_eq_true rfl) (Nat.le_of_ble_eq_true rfl) dX4_share_52
  · skip
    exact hthr "java/lang/IllegalStateException" "the village has fewer than 5 coins" 58 11 73 120 77 _ _ _ _ 32 _ (Or.inr (Or.inr ⟨rfl, u, w, hu, rfl, hw, rfl, hne, Int32.not_le.mp c29⟩)) hP hS (Nat.le_of_ble_eq_true rfl) (Nat.le_of_ble_eq_true rfl) (by decide +kernel) rfl rfl (hts (.classLink RX4 73 "java/lang/IllegalStateException") (by decide +kernel)) (hts (.initialized "java/lang/IllegalStateException") (by decide +kernel)) (by decide +kernel) (by decide +kernel) (by decide +kernel) hl.1 ⟨dX4_share_32, dX4_share_35, dX4_share_36, dX4_share_38, dX4_share_41⟩

set_option maxHeartbeats 4000000 in
set_option maxRecDepth 100000 in
theorem m_X4_about (l : Launch) (hst : l.stackTraces = false) (g : GG) (L : List Nat) (f : Nat → va_E) (sz : Nat) (hN : L.Nodup) (lo we al rv d sy rt ed n ga ra : Nat) (mo : Int32) (gl rn sa kd nu : Nat → Int32) (so : Nat → Nat) (el : Nat → Option Nat) (pa nv : Nat) (pl : Nat → Option Nat) (ad aw : Nat → Nat) (vs : Nat → VV) (v what : Int32) (hL_lo : lo ∈ L) (hf_lo : f lo = eO 5 [.ref we, .ref al, .ref rv, .int (nI d), .ref sy, .ref rt]) (hL_al : al ∈ L) (hf_al : f al = eO 0 [.int mo, .ref ed, .int (nI n)]) (hL_we : we ∈ L) (hf_we : f we = eO 4 [.ref ga, .ref ra]) (hL_ga : ga ∈ L) (hf_ga : f ga = eI g 12 gl) (hL_ra : ra ∈ L) (hf_ra : f ra = eZ g 12 rn) (hL_sy : sy ∈ L) (hf_sy : f sy = eI g 8 sa) (hL_rv : rv ∈ L) (hf_rv : f rv = eO 3 [.ref pa, .int (nI nv)]) (hL_pa : pa ∈ L) (hf_pa : f pa = eV g 6 pl) (hn : n ≤ 8) (hrn : ∀ k, k < 12 → ∃ b, rn k = b2i b) (hSg : Sgs g L f n ed so el kd nu) (hnv : nv ≤ 6) (hpl : ∀ v, v < 6 → pl v = some (ad v)) (hV : Vils g L f 6 ad aw vs) (hd : d < 2 ^ 30) (hsy : ∀ v, v < 6 → sy ≠ aw v) : TW l g yX4_about wsX4_about 7 112 2 12 L f sz [.ref lo, .int v, .int what] (fun r f2 => ∃ u k, u < nv ∧ v = nI u ∧ k < 7 ∧ what = nI k ∧ r = aboutL (saS kd nu gl rn n d sa) vs n nv u k ∧ f2 sy = eI g 8 (if 5 ≤ k then saS kd nu gl rn n d sa else sa) ∧ Fr f f2 [sy]) (fun E => E = "java/lang/IndexOutOfBoundsException" ∧ (inB v nv && inB what 7) = false) := by
  refine TW.start (cc := cX4_about) (maxL := 4) (ret := .int) hst (by decide) rfl (by simp [lg_sl, Value.category]) (by decide) (by decide) ?_
  intro p e s m args below meth c Q ls hx hb hml hts hown hS hP hK hZ hl hend hthr hprop
  have hA : ∀ a ∈ L, AA L s.heap.size a := fun _ h => Or.inl h
  have hA2 : ∀ q, s.heap.size ≤ q → AA L s.heap.size q := fun _ h => Or.inr h
  have hl : lv_has ls 4 [(0, .ref lo), (1, .int v), (2, .int what)] := hl
  have hi_X1 : ∀ w ∈ u_ws RX1 TX1 5, w ∈ wsX4_about := by decide +kernel
  have hi_X4 : ∀ w ∈ u_ws RX4 TX4 6, w ∈ wsX4_about := by decide +kernel
  have hFr : Fr f f [sy] := Fr.rf
  have n_lo_al : lo ≠ al := ne_e hf_lo hf_al (by simp)
  have n_lo_we : lo ≠ we := ne_e hf_lo hf_we (by simp)
  have n_lo_ga : lo ≠ ga := ne_e hf_lo hf_ga (by simp)
  have n_lo_ra : lo ≠ ra := ne_e hf_lo hf_ra (by simp)
  have n_lo_sy : lo ≠ sy := ne_e hf_lo hf_sy (by simp)
  have n_lo_rv : lo ≠ rv := ne_e hf_lo hf_rv (by simp)
  have n_lo_pa : lo ≠ pa := ne_e hf_lo hf_pa (by simp)
  have n_al_we : al ≠ we := ne_e hf_al hf_we (by simp)
  have n_al_ga : al ≠ ga := ne_e hf_al hf_ga (by simp)
  have n_al_ra : al ≠ ra := ne_e hf_al hf_ra (by simp)
  have n_al_sy : al ≠ sy := ne_e hf_al hf_sy (by simp)
  have n_al_rv : al ≠ rv := ne_e hf_al hf_rv (by simp)
  have n_al_pa : al ≠ pa := ne_e hf_al hf_pa (by simp)
  have n_we_ga : we ≠ ga := ne_e hf_we hf_ga (by simp)
  have n_we_ra : we ≠ ra := ne_e hf_we hf_ra (by simp)
  have n_we_sy : we ≠ sy := ne_e hf_we hf_sy (by simp)
  have n_we_rv : we ≠ rv := ne_e hf_we hf_rv (by simp)
  have n_we_pa : we ≠ pa := ne_e hf_we hf_pa (by simp)
  have n_ga_sy : ga ≠ sy := ne_e hf_ga hf_sy (by simp)
  have n_ga_rv : ga ≠ rv := ne_e hf_ga hf_rv (by simp)
  have n_ga_pa : ga ≠ pa := ne_e hf_ga hf_pa (by simp)
  have n_ra_sy : ra ≠ sy := ne_e hf_ra hf_sy (by simp)
  have n_ra_rv : ra ≠ rv := ne_e hf_ra hf_rv (by simp)
  have n_ra_pa : ra ≠ pa := ne_e hf_ra hf_pa (by simp)
  have n_sy_rv : sy ≠ rv := ne_e hf_sy hf_rv (by simp)
  have n_sy_pa : sy ≠ pa := ne_e hf_sy hf_pa (by simp)
  have n_rv_pa : rv ≠ pa := ne_e hf_rv hf_pa (by simp)
  have h0f_lo := hf_lo
  have h0f_al := hf_al
  have h0f_we := hf_we
  have h0f_ga := hf_ga
  have h0f_ra := hf_ra
  have h0f_sy := hf_sy
  have h0f_rv := hf_rv
  have h0f_pa := hf_pa
  have off_lo : Off 6 ad aw lo := Off.of hV hf_lo (by simp) (by simp)
  have off_al : Off 6 ad aw al := Off.of hV hf_al (by simp) (by simp)
  have off_rv : Off 6 ad aw rv := Off.of hV hf_rv (by simp) (by simp)
  have off_pa : Off 6 ad aw pa := Off.of hV hf_pa (by simp) (by simp)
  have off_we : Off 6 ad aw we := Off.of hV hf_we (by simp) (by simp)
  have off_ga : Off 6 ad aw ga := Off.of hV hf_ga (by simp) (by simp)
  have off_ra : Off 6 ad aw ra := Off.of hV hf_ra (by simp) (by simp)
  have off_sy : Off 6 ad aw sy := Off.ofI hV hf_sy hsy
  refine lv_aload_n hx hb dX4_about_0 rfl (lv_at hl 0 rfl) ?_
  refine pg_get (C := RX4) (T := TX4) (N := 6) hx hb hts hi_X4 hown hK hP hL_lo hf_lo rfl 2 (by decide) (hts (.fieldLink RX4 28 "BarometerLeague" "villages" "LBarometerLeague$VillageRow;") (by decide +kernel)) (fun _ h9 => h9) rfl dX4_about_1 ?_
  refine lv_iload_n hx hb dX4_about_4 rfl (lv_at hl 1 rfl) ?_
  refine tr_V (As := [.int v]) (rest := []) ⟨hx, hb, hml, hown, hts⟩ (m_X2_get l hst g L f _ hN _ _ _ _ _ ad aw v hL_rv hf_rv hL_pa hf_pa (by omega) hnv hpl) (cwV 1 hts gX4_about_X2_get rfl rfl rfl (by decide +kernel) ⟨Nat.le_of_ble_eq_true rfl, Nat.le_of_ble_eq_true rfl⟩) hK hZ hP hS hL_rv hf_rv rfl rfl hl.1 rfl (Nat.le_of_ble_eq_true rfl) dX4_about_5 ⟨(Nat.le_of_ble_eq_true rfl), (Nat.le_of_ble_eq_true rfl)⟩ (fun E ce q9 H locs hxc hP hS hce hcv hcl => hprop E ce q9 _ _ _ _ _ _ _ (⟨hxc.1, by rw [hxc.2]; rfl⟩) hP hS hce hcv hcl (Nat.le_of_ble_eq_true rfl) (Nat.le_of_ble_eq_true rfl)) (fun x5 H locs hr5 hP hS => ?_)
  obtain ⟨u, hu, rfl, rfl⟩ := hr5
  have q5 := hV u (by omega)
  obtain ⟨hL_ad_u, hf_ad_u, hL_aw_u, hf_aw_u⟩ := q5
  refine lv_astore_n (lv' := [(3, .ref (ad u)), (0, .ref lo), (1, .int (nI u)), (2, .int what)]) hx hb dX4_about_8 rfl hl (by decide) rfl (fun ls hl => ?_)
  refine lv_iload_n hx hb dX4_about_9 rfl (lv_at hl 3 rfl) ?_
  refine lv_iconst (v := 0) hx hb dX4_about_10 (by decide) ?_
  refine lv_bipush (v := 6) hx hb dX4_about_11 (by decide) ?_
  refine tv_S (As := [.int what, .int 0, .int 6]) (rest := []) ⟨hx, hb, hml, hown, hts⟩ (m_X4_requireWhat l hst g L f _ hN what _ _ ) (va_cwS 3 hts gX4_about_X4_requireWhat rfl rfl rfl (by decide +kernel) ⟨Nat.le_of_ble_eq_true rfl, Nat.le_of_ble_eq_true rfl⟩) hK hZ hP hS rfl hl.1 rfl (Nat.le_of_ble_eq_true rfl) dX4_about_13 ⟨(Nat.le_of_ble_eq_true rfl), (Nat.le_of_ble_eq_true rfl)⟩ (fun E ce q9 H locs hxc hP hS hce hcv hcl => hprop E ce q9 _ _ _ _ _ _ _ (⟨hxc.1, by rw [inB_nI hu (by omega), show inB what 7 = false from (inB_le (k := 6) (by omega)).trans hxc.2]; rfl⟩) hP hS hce hcv hcl (Nat.le_of_ble_eq_true rfl) (Nat.le_of_ble_eq_true rfl)) (fun f13 H locs hr13 hP hS => ?_)
  obtain ⟨hr13, hq13⟩ := hr13
  rw [hq13] at hP
  obtain ⟨k, hk, rfl⟩ := wh_in (k := 6) (by omega) hr13
  refine lv_iload_n hx hb dX4_about_16 rfl (lv_at hl 3 rfl) ?_
  by_cases k17_0 : k = 0
  · have q : (nI k).toInt = 0 := by rw [k17_0]; rfl
    refine lv_tableIn (off := 39) (tgt := 56) hx hb dX4_about_17 (by rw [q]; decide) (by rw [q]; decide) (by rw [q]; rfl) (by decide) ?_
    refine lv_aload_n hx hb dX4_about_56 rfl (lv_at hl 0 rfl) ?_
    refine pg_getN (C := RX1) (T := TX1) (N := 5) hx hb hts hi_X1 hown hK hP hL_ad_u hf_ad_u rfl 2 (by decide) (hK.nest 1 rfl) (fun _ h9 => h9) rfl dX4_about_57 ?_
    exact hend ((vs u).2.1) f _ _ _ _ _ _ (⟨u, k, hu, rfl, hk, rfl, by unfold aboutL; rw [if_pos k17_0], by rw [if_neg (by omega)]; exact hf_sy, hFr⟩) hP hS rfl (Nat.le_of_ble_eq_true rfl) (Nat.le_of_ble_eq_true rfl) dX4_about_60
  have q17_0 : (nI k).toInt ≠ 0 := by rw [nI_toInt (by omega)]; omega
  by_cases k17_1 : k = 1
  · have q : (nI k).toInt = 1 := by rw [k17_1]; rfl
    refine lv_tableIn (off := 44) (tgt := 61) hx hb dX4_about_17 (by rw [q]; decide) (by rw [q]; decide) (by rw [q]; rfl) (by decide) ?_
    refine lv_aload_n hx hb dX4_about_61 rfl (lv_at hl 0 rfl) ?_
    refine pg_getN (C := RX1) (T := TX1) (N := 5) hx hb hts hi_X1 hown hK hP hL_ad_u hf_ad_u rfl 3 (by decide) (hK.nest 2 rfl) (fun _ h9 => h9) rfl dX4_about_62 ?_
    exact hend ((vs u).2.2.1) f _ _ _ _ _ _ (⟨u, k, hu, rfl, hk, rfl, by unfold aboutL; rw [if_neg k17_0, if_pos k17_1], by rw [if_neg (by omega)]; exact hf_sy, hFr⟩) hP hS rfl (Nat.le_of_ble_eq_true rfl) (Nat.le_of_ble_eq_true rfl) dX4_about_65
  have q17_1 : (nI k).toInt ≠ 1 := by rw [nI_toInt (by omega)]; omega
  by_cases k17_2 : k = 2
  · have q : (nI k).toInt = 2 := by rw [k17_2]; rfl
    refine lv_tableIn (off := 49) (tgt := 66) hx hb dX4_about_17 (by rw [q]; decide) (by rw [q]; decide) (by rw [q]; rfl) (by decide) ?_
    refine lv_aload_n hx hb dX4_about_66 rfl (lv_at hl 0 rfl) ?_
    refine pg_getN (C := RX1) (T := TX1) (N := 5) hx hb hts hi_X1 hown hK hP hL_ad_u hf_ad_u rfl 4 (by decide) (hK.nest 4 rfl) (fun _ h9 => h9) rfl dX4_about_67 ?_
    exact hend ((vs u).2.2.2.1) f _ _ _ _ _ _ (⟨u, k, hu, rfl, hk, rfl, by unfold aboutL; rw [if_neg k17_0, if_neg k17_1, if_pos k17_2], by rw [if_neg (by omega)]; exact hf_sy, hFr⟩) hP hS rfl (Nat.le_of_ble_eq_true rfl) (Nat.le_of_ble_eq_true rfl) dX4_about_70
  have q17_2 : (nI k).toInt ≠ 2 := by rw [nI_toInt (by omega)]; omega
  by_cases k17_3 : k = 3
  · have q : (nI k).toInt = 3 := by rw [k17_3]; rfl
    refine lv_tableIn (off := 54) (tgt := 71) hx hb dX4_about_17 (by rw [q]; decide) (by rw [q]; decide) (by rw [q]; rfl) (by decide) ?_
    refine lv_aload_n hx hb dX4_about_71 rfl (lv_at hl 0 rfl) ?_
    refine lv_aload_n hx hb dX4_about_72 rfl (lv_at hl 1 rfl) ?_
    refine pg_get (C := RX4) (T := TX4) (N := 6) hx hb hts hi_X4 hown hK hP hL_lo hf_lo rfl 1 (by decide) (hts (.fieldLink RX4 19 "BarometerLeague" "signs" "Ljava/util/ArrayList;") (by decide +kernel)) (fun _ h9 => h9) rfl dX4_about_73 ?_
    refine ro_V (As := []) (rest := [.ref (ad u)]) ⟨hx, hb, hml, hown, hts⟩ (m_Jx4a65c_size_8abf5 l g L f _ _ _ _ hL_al hf_al) (cwV 0 hts gX4_about_Jx4a65c_size_8abf5 rfl rfl rfl (by decide +kernel) ⟨Nat.le_of_ble_eq_true rfl, Nat.le_of_ble_eq_true rfl⟩) hK hP hL_al hf_al rfl rfl hl.1 rfl (Nat.le_of_ble_eq_true rfl) dX4_about_76 ⟨(Nat.le_of_ble_eq_true rfl), (Nat.le_of_ble_eq_true rfl)⟩ (fun r76 hr76 => ?_)
    have hr76 : r76 = nI n := hr76
    subst hr76
    refine ro_V (As := [.int (nI n)]) (rest := []) ⟨hx, hb, hml, hown, hts⟩ (m_X1_allWeights l g L f _ _ _ _ _ _ _ n hL_ad_u hf_ad_u hL_aw_u hf_aw_u hn) (cwV 1 hts gX4_about_X1_allWeights rfl rfl rfl (by decide +kernel) ⟨Nat.le_of_ble_eq_true rfl, Nat.le_of_ble_eq_true rfl⟩) hK hP hL_ad_u hf_ad_u rfl rfl hl.1 rfl (Nat.le_of_ble_eq_true rfl) dX4_about_79 ⟨(Nat.le_of_ble_eq_true rfl), (Nat.le_of_ble_eq_true rfl)⟩ (fun r79 hr79 => ?_)
    have hr79 : r79 = sumN (vs u).2.2.2.2 n := hr79
    subst hr79
    exact hend (sumN (vs u).2.2.2.2 n) f _ _ _ _ _ _ (⟨u, k, hu, rfl, hk, rfl, by unfold aboutL; rw [if_neg k17_0, if_neg k17_1, if_neg k17_2, if_pos k17_3], by rw [if_neg (by omega)]; exact hf_sy, hFr⟩) hP hS rfl (Nat.le_of_ble_eq_true rfl) (Nat.le_of_ble_eq_true rfl) dX4_about_82
  have q17_3 : (nI k).toInt ≠ 3 := by rw [nI_toInt (by omega)]; omega
  by_cases k17_4 : k = 4
  · have q : (nI k).toInt = 4 := by rw [k17_4]; rfl
    refine lv_tableIn (off := 66) (tgt := 83) hx hb dX4_about_17 (by rw [q]; decide) (by rw [q]; decide) (by rw [q]; rfl) (by decide) ?_
    refine lv_aload_n hx hb dX4_about_83 rfl (lv_at hl 1 rfl) ?_
    refine pg_get (C := RX4) (T := TX4) (N := 6) hx hb hts hi_X4 hown hK hP hL_lo hf_lo rfl 2 (by decide) (hts (.fieldLink RX4 28 "BarometerLeague" "villages" "LBarometerLeague$VillageRow;") (by decide +kernel)) (fun _ h9 => h9) rfl dX4_about_84 ?_
    refine lv_aload_n hx hb dX4_about_87 rfl (lv_at hl 0 rfl) ?_
    refine ro_V (As := [.ref (ad u)]) (rest := []) ⟨hx, hb, hml, hown, hts⟩ (m_X2_placeOf l g L f _ _ _ _ _ _ _ _ _ _ (vs u) hL_rv hf_rv hL_pa hf_pa hL_ad_u hf_ad_u (by omega) hnv hpl hV) (cwV 1 hts gX4_about_X2_placeOf rfl rfl rfl (by decide +kernel) ⟨Nat.le_of_ble_eq_true rfl, Nat.le_of_ble_eq_true rfl⟩) hK hP hL_rv hf_rv rfl rfl hl.1 rfl (Nat.le_of_ble_eq_true rfl) dX4_about_88 ⟨(Nat.le_of_ble_eq_true rfl), (Nat.le_of_ble_eq_true rfl)⟩ (fun r88 hr88 => ?_)
    have hr88 : r88 = placeV vs nv (vs u) := hr88
    subst hr88
    exact hend (placeV vs nv (vs u)) f _ _ _ _ _ _ (⟨u, k, hu, rfl, hk, rfl, by unfold aboutL; rw [if_neg k17_0, if_neg k17_1, if_neg k17_2, if_neg k17_3, if_pos k17_4], by rw [if_neg (by omega)]; exact hf_sy, hFr⟩) hP hS rfl (Nat.le_of_ble_eq_true rfl) (Nat.le_of_ble_eq_true rfl) dX4_about_91
  have q17_4 : (nI k).toInt ≠ 4 := by rw [nI_toInt (by omega)]; omega
  by_cases k17_5 : k = 5
  · have q : (nI k).toInt = 5 := by rw [k17_5]; rfl
    refine lv_tableIn (off := 75) (tgt := 92) hx hb dX4_about_17 (by rw [q]; decide) (by rw [q]; decide) (by rw [q]; rfl) (by decide) ?_
    refine lv_aload_n hx hb dX4_about_92 rfl (lv_at hl 0 rfl) ?_
    refine lv_aload_n hx hb dX4_about_93 rfl (lv_at hl 1 rfl) ?_
    refine lv_aload_n hx hb dX4_about_94 rfl (lv_at hl 1 rfl) ?_
    refine pg_get (C := RX4) (T := TX4) (N := 6) hx hb hts hi_X4 hown hK hP hL_lo hf_lo rfl 3 (by decide) (hts (.fieldLink RX4 165 "BarometerLeague" "day" "I") (by decide +kernel)) (fun _ h9 => h9) rfl dX4_about_95 ?_
    refine rf_V (As := [.int (nI d)]) (rest := [.ref (ad u)]) ⟨hx, hb, hml, hown, hts⟩ (m_X4_sayingsOn l g L f _ hN _ _ _ _ _ _ _ _ _ _ _ _ _ _ _ _ _ _ _ d hL_lo hf_lo hL_al hf_al hL_we hf_we hL_ga hf_ga hL_ra hf_ra hL_sy hf_sy hn hrn hd hSg) (cwV 1 hts gX4_about_X4_sayingsOn rfl rfl rfl (by decide +kernel) ⟨Nat.le_of_ble_eq_true rfl, Nat.le_of_ble_eq_true rfl⟩) hK hP hA hA2 hS hL_lo hf_lo rfl rfl hl.1 rfl (Nat.le_of_ble_eq_true rfl) dX4_about_98 ⟨(Nat.le_of_ble_eq_true rfl), (Nat.le_of_ble_eq_true rfl)⟩ (fun f98 H locs hr98 hP hS => ?_)
    obtain ⟨hc98_0, hw98⟩ := hr98
    have hf_lo : f98 lo = eO 5 [.ref we, .ref al, .ref rv, .int (nI d), .ref sy, .ref rt] := hw98.get hf_lo (nm_c n_lo_sy (List.not_mem_nil))
    have hf_al : f98 al = eO 0 [.int mo, .ref ed, .int (nI n)] := hw98.get hf_al (nm_c n_al_sy (List.not_mem_nil))
    have hf_we : f98 we = eO 4 [.ref ga, .ref ra] := hw98.get hf_we (nm_c n_we_sy (List.not_mem_nil))
    have hf_ga : f98 ga = eI g 12 gl := hw98.get hf_ga (nm_c n_ga_sy (List.not_mem_nil))
    have hf_ra : f98 ra = eZ g 12 rn := hw98.get hf_ra (nm_c n_ra_sy (List.not_mem_nil))
    have hf_rv : f98 rv = eO 3 [.ref pa, .int (nI nv)] := hw98.get hf_rv (nm_c n_sy_rv.symm (List.not_mem_nil))
    have hf_pa : f98 pa = eV g 6 pl := hw98.get hf_pa (nm_c n_sy_pa.symm (List.not_mem_nil))
    have hf_ad_u : f98 (ad u) = eO 2 [.ref (aw u), .int ((vs u).1), .int ((vs u).2.1), .int ((vs u).2.2.1), .int ((vs u).2.2.2.1)] := hw98.get hf_ad_u (nm_c (off_sy u (by omega)).1.symm (List.not_mem_nil))
    have hf_aw_u : f98 (aw u) = eI g 8 ((vs u).2.2.2.2) := hw98.get hf_aw_u (nm_c (off_sy u (by omega)).2.symm (List.not_mem_nil))
    have hf_sy : f98 sy = eI g 8 (saS kd nu gl rn n d sa) := hc98_0
    replace hFr : Fr f f98 [sy] := hFr.tr hw98 (by simp)
    refine ro_V (As := [.ref sy]) (rest := []) ⟨hx, hb, hml, hown, hts⟩ (m_X1_guessesRain l g L f98 _ _ _ _ _ _ _ _ _ hL_ad_u hf_ad_u hL_aw_u hf_aw_u hL_sy hf_sy) (cwV 1 hts gX4_about_X1_guessesRain rfl rfl rfl (by decide +kernel) ⟨Nat.le_of_ble_eq_true rfl, Nat.le_of_ble_eq_true rfl⟩) hK hP hL_ad_u hf_ad_u rfl rfl hl.1 rfl (Nat.le_of_ble_eq_true rfl) dX4_about_101 ⟨(Nat.le_of_ble_eq_true rfl), (Nat.le_of_ble_eq_true rfl)⟩ (fun r101 hr101 => ?_)
    have hr101 : r101 = b2i (decide (0 < leadN (saS kd nu gl rn n d sa) (vs u).2.2.2.2 8)) := hr101
    subst hr101
    refine lv_if_eq (tgt := 111) hx hb dX4_about_104 (by decide) (fun c104 => ?_) (fun c104 => ?_)
    · skip
      refine lv_iconst (v := 0) hx hb dX4_about_111 (by decide) ?_
      exact hend (0) f98 _ _ _ _ _ _ (⟨u, k, hu, rfl, hk, rfl, by unfold aboutL; rw [if_neg k17_0, if_neg k17_1, if_neg k17_2, if_neg k17_3, if_neg k17_4, if_pos k17_5]; exact c104.symm, by rw [if_pos (by omega)]; exact hf_sy, hFr⟩) hP hS rfl (Nat.le_of_ble_eq_true rfl) (Nat.le_of_ble_eq_true rfl) dX4_about_112
    · skip
      refine lv_iconst (v := 1) hx hb dX4_about_107 (by decide) ?_
      refine lv_goto (tgt := 112) hx hb dX4_about_108 (by decide) ?_
      exact hend (1) f98 _ _ _ _ _ _ (⟨u, k, hu, rfl, hk, rfl, by unfold aboutL; rw [if_neg k17_0, if_neg k17_1, if_neg k17_2, if_neg k17_3, if_neg k17_4, if_pos k17_5]; exact (bool1 ⟨_, rfl⟩ c104).symm, by rw [if_pos (by omega)]; exact hf_sy, hFr⟩) hP hS rfl (Nat.le_of_ble_eq_true rfl) (Nat.le_of_ble_eq_true rfl) dX4_about_112
  have q17_5 : (nI k).toInt ≠ 5 := by rw [nI_toInt (by omega)]; omega
  refine lv_tableOut (tgt := 113) hx hb dX4_about_17 (by omega) (by decide) ?_
  refine lv_aload_n hx hb dX4_about_113 rfl (lv_at hl 0 rfl) ?_
  refine lv_aload_n hx hb dX4_about_114 rfl (lv_at hl 1 rfl) ?_
  refine lv_aload_n hx hb dX4_about_115 rfl (lv_at hl 1 rfl) ?_
  refine pg_get (C := RX4) (T := TX4) (N := 6) hx hb hts hi_X4 hown hK hP hL_lo hf_lo rfl 3 (by decide) (hts (.fieldLink RX4 165 "BarometerLeague" "day" "I") (by decide +kernel)) (fun _ h9 => h9) rfl dX4_about_116 ?_
  refine rf_V (As := [.int (nI d)]) (rest := [.ref (ad u)]) ⟨hx, hb, hml, hown, hts⟩ (m_X4_sayingsOn l g L f _ hN _ _ _ _ _ _ _ _ _ _ _ _ _ _ _ _ _ _ _ d hL_lo hf_lo hL_al hf_al hL_we hf_we hL_ga hf_ga hL_ra hf_ra hL_sy hf_sy hn hrn hd hSg) (cwV 1 hts gX4_about_X4_sayingsOn rfl rfl rfl (by decide +kernel) ⟨Nat.le_of_ble_eq_true rfl, Nat.le_of_ble_eq_true rfl⟩) hK hP hA hA2 hS hL_lo hf_lo rfl rfl hl.1 rfl (Nat.le_of_ble_eq_true rfl) dX4_about_119 ⟨(Nat.le_of_ble_eq_true rfl), (Nat.le_of_ble_eq_true rfl)⟩ (fun f119 H locs hr119 hP hS => ?_)
  obtain ⟨hc119_0, hw119⟩ := hr119
  have hf_lo : f119 lo = eO 5 [.ref we, .ref al, .ref rv, .int (nI d), .ref sy, .ref rt] := hw119.get hf_lo (nm_c n_lo_sy (List.not_mem_nil))
  have hf_al : f119 al = eO 0 [.int mo, .ref ed, .int (nI n)] := hw119.get hf_al (nm_c n_al_sy (List.not_mem_nil))
  have hf_we : f119 we = eO 4 [.ref ga, .ref ra] := hw119.get hf_we (nm_c n_we_sy (List.not_mem_nil))
  have hf_ga : f119 ga = eI g 12 gl := hw119.get hf_ga (nm_c n_ga_sy (List.not_mem_nil))
  have hf_ra : f119 ra = eZ g 12 rn := hw119.get hf_ra (nm_c n_ra_sy (List.not_mem_nil))
  have hf_rv : f119 rv = eO 3 [.ref pa, .int (nI nv)] := hw119.get hf_rv (nm_c n_sy_rv.symm (List.not_mem_nil))
  have hf_pa : f119 pa = eV g 6 pl := hw119.get hf_pa (nm_c n_sy_pa.symm (List.not_mem_nil))
  have hf_ad_u : f119 (ad u) = eO 2 [.ref (aw u), .int ((vs u).1), .int ((vs u).2.1), .int ((vs u).2.2.1), .int ((vs u).2.2.2.1)] := hw119.get hf_ad_u (nm_c (off_sy u (by omega)).1.symm (List.not_mem_nil))
  have hf_aw_u : f119 (aw u) = eI g 8 ((vs u).2.2.2.2) := hw119.get hf_aw_u (nm_c (off_sy u (by omega)).2.symm (List.not_mem_nil))
  have hf_sy : f119 sy = eI g 8 (saS kd nu gl rn n d sa) := hc119_0
  replace hFr : Fr f f119 [sy] := hFr.tr hw119 (by simp)
  refine ro_V (As := [.ref sy]) (rest := []) ⟨hx, hb, hml, hown, hts⟩ (m_X1_leadOfRain l g L f119 _ _ _ _ _ _ _ _ _ hL_ad_u hf_ad_u hL_aw_u hf_aw_u hL_sy hf_sy) (cwV 1 hts gX4_about_X1_leadOfRain rfl rfl rfl (by decide +kernel) ⟨Nat.le_of_ble_eq_true rfl, Nat.le_of_ble_eq_true rfl⟩) hK hP hL_ad_u hf_ad_u rfl rfl hl.1 rfl (Nat.le_of_ble_eq_true rfl) dX4_about_122 ⟨(Nat.le_of_ble_eq_true rfl), (Nat.le_of_ble_eq_true rfl)⟩ (fun r122 hr122 => ?_)
  have hr122 : r122 = leadN (saS kd nu gl rn n d sa) (vs u).2.2.2.2 8 := hr122
  subst hr122
  exact hend (leadN (saS kd nu gl rn n d sa) (vs u).2.2.2.2 8) f119 _ _ _ _ _ _ (⟨u, k, hu, rfl, hk, rfl, by unfold aboutL; rw [if_neg k17_0, if_neg k17_1, if_neg k17_2, if_neg k17_3, if_neg k17_4, if_neg k17_5], by rw [if_pos (by omega)]; exact hf_sy, hFr⟩) hP hS rfl (Nat.le_of_ble_eq_true rfl) (Nat.le_of_ble_eq_true rfl) dX4_about_125

set_option maxHeartbeats 4000000 in
set_option maxRecDepth 100000 in
theorem m_X4_at (l : Launch) (hst : l.stackTraces = false) (g : GG) (L : List Nat) (f : Nat → va_E) (sz : Nat) (hN : L.Nodup) (lo we al rv d sy rt ed n : Nat) (mo : Int32) (pa nv : Nat) (pl : Nat → Option Nat) (ad aw : Nat → Nat) (vs : Nat → VV) (pl_ : Int32) (hL_lo : lo ∈ L) (hf_lo : f lo = eO 5 [.ref we, .ref al, .ref rv, .int (nI d), .ref sy, .ref rt]) (hL_al : al ∈ L) (hf_al : f al = eO 0 [.int mo, .ref ed, .int (nI n)]) (hL_rv : rv ∈ L) (hf_rv : f rv = eO 3 [.ref pa, .int (nI nv)]) (hL_pa : pa ∈ L) (hf_pa : f pa = eV g 6 pl) (hnv : nv ≤ 6) (hpl : ∀ v, v < 6 → pl v = some (ad v)) (hV : Vils g L f 6 ad aw vs) : TW l g yX4_at wsX4_at 7 111 7 42 L f sz [.ref lo, .int pl_] (fun r f2 => (∃ i, i < nv ∧ r = nI i ∧ placeV vs nv (vs i) = pl_ ∧ ∀ j, j < i → placeV vs nv (vs j) ≠ pl_) ∧ f2 = f) (fun E => E = "java/lang/IndexOutOfBoundsException" ∧ ∀ j, j < nv → placeV vs nv (vs j) ≠ pl_) := by
  refine TW.start (cc := cX4_at) (maxL := 3) (ret := .int) hst (by decide) rfl (by simp [lg_sl, Value.category]) (by decide) (by decide) ?_
  intro p e s m args below meth c Q ls hx hb hml hts hown hS hP hK hZ hl hend hthr hprop
  have hA : ∀ a ∈ L, AA L s.heap.size a := fun _ h => Or.inl h
  have hA2 : ∀ q, s.heap.size ≤ q → AA L s.heap.size q := fun _ h => Or.inr h
  have hl : lv_has ls 3 [(0, .ref lo), (1, .int pl_)] := hl
  have hi_X4 : ∀ w ∈ u_ws RX4 TX4 6, w ∈ wsX4_at := by decide +kernel
  have hFr : Fr f f [] := Fr.rf
  have n_lo_al : lo ≠ al := ne_e hf_lo hf_al (by simp)
  have n_lo_rv : lo ≠ rv := ne_e hf_lo hf_rv (by simp)
  have n_lo_pa : lo ≠ pa := ne_e hf_lo hf_pa (by simp)
  have n_al_rv : al ≠ rv := ne_e hf_al hf_rv (by simp)
  have n_al_pa : al ≠ pa := ne_e hf_al hf_pa (by simp)
  have n_rv_pa : rv ≠ pa := ne_e hf_rv hf_pa (by simp)
  have h0f_lo := hf_lo
  have h0f_al := hf_al
  have h0f_rv := hf_rv
  have h0f_pa := hf_pa
  refine lv_iconst (v := 0) hx hb dX4_at_0 (by decide) ?_
  refine lv_istore_n (lv' := [(2, .int 0), (0, .ref lo), (1, .int pl_)]) hx hb dX4_at_1 rfl hl (by decide) rfl (fun ls hl => ?_)
  have K2 : ∀ (n2 : Nat) (i : Nat) (H : Heap) (locs : List Loc), nv - i < n2 → i ≤ nv → (∀ j, j < i → placeV vs nv (vs j) ≠ pl_) → PP g L f H → va_S (AA L s.heap.size) s.heap H locs → ∀ (ls : Array Slot), lv_has ls 3 [(2, .int (nI i)), (1, .int pl_), (0, .ref lo)] → W p l e ({ frames := 7, cells := 7, slots := 42, locals := 111 } : Room) s m args below meth c H locs (i) (6 * (i)) Q (F0 m 2 ls []) := by
    intro n2
    induction n2 with
    | zero => intros; omega
    | succ n2 ih2 =>
      intro i H locs hm2 hi ha hP hS ls hl
      refine lv_iload_n hx hb dX4_at_2 rfl (lv_at hl 0 rfl) ?_
      refine lv_aload_n hx hb dX4_at_3 rfl (lv_at hl 2 rfl) ?_
      refine pg_get (C := RX4) (T := TX4) (N := 6) hx hb hts hi_X4 hown hK hP hL_lo hf_lo rfl 2 (by decide) (hts (.fieldLink RX4 28 "BarometerLeague" "villages" "LBarometerLeague$VillageRow;") (by decide +kernel)) (fun _ h9 => h9) rfl dX4_at_4 ?_
      refine ro_V (As := []) (rest := [.int (nI i)]) ⟨hx, hb, hml, hown, hts⟩ (m_X2_size l g L f _ _ _ hL_rv hf_rv) (cwV 0 hts gX4_at_X2_size rfl rfl rfl (by decide +kernel) ⟨Nat.le_of_ble_eq_true rfl, Nat.le_of_ble_eq_true rfl⟩) hK hP hL_rv hf_rv rfl rfl hl.1 rfl (Nat.le_of_ble_eq_true rfl) dX4_at_7 ⟨(by show i ≤ 7; omega), (by show 6 * (i) ≤ 42; omega)⟩ (fun r7 hr7 => ?_)
      have hr7 : r7 = nI nv := hr7
      subst hr7
      refine lv_icmp_ge (tgt := 40) hx hb dX4_at_10 (by decide) (fun c10 => ?_) (fun c10 => ?_)
      · skip
        have c10 : nv ≤ i := (nI_leI (a := nv) (b := i) (by omega) (by omega)).mp (show nI nv ≤ nI i from c10)
        exact hthr "java/lang/IndexOutOfBoundsException" "there is no such place" 56 13 180 182 184 _ _ _ _ 40 _ (⟨rfl, fun j hj => ha j (by omega)⟩) hP hS (by show i + 1 ≤ 7; omega) (by show 6 * (i + 1) ≤ 42; omega) (by decide +kernel) rfl rfl (hts (.classLink RX4 180 "java/lang/IndexOutOfBoundsException") (by decide +kernel)) (hts (.initialized "java/lang/IndexOutOfBoundsException") (by decide +kernel)) (by decide +kernel) (by decide +kernel) (by decide +kernel) hl.1 ⟨dX4_at_40, dX4_at_43, dX4_at_44, dX4_at_46, dX4_at_49⟩
      · skip
        have c10 : ¬ nv ≤ i := fun h => c10 ((nI_leI (a := nv) (b := i) (by omega) (by omega)).mpr h)
        refine lv_aload_n hx hb dX4_at_13 rfl (lv_at hl 2 rfl) ?_
        refine pg_get (C := RX4) (T := TX4) (N := 6) hx hb hts hi_X4 hown hK hP hL_lo hf_lo rfl 2 (by decide) (hts (.fieldLink RX4 28 "BarometerLeague" "villages" "LBarometerLeague$VillageRow;") (by decide +kernel)) (fun _ h9 => h9) rfl dX4_at_14 ?_
        refine lv_aload_n hx hb dX4_at_17 rfl (lv_at hl 2 rfl) ?_
        refine pg_get (C := RX4) (T := TX4) (N := 6) hx hb hts hi_X4 hown hK hP hL_lo hf_lo rfl 2 (by decide) (hts (.fieldLink RX4 28 "BarometerLeague" "villages" "LBarometerLeague$VillageRow;") (by decide +kernel)) (fun _ h9 => h9) rfl dX4_at_18 ?_
        refine lv_iload_n hx hb dX4_at_21 rfl (lv_at hl 0 rfl) ?_
        refine tr_V (As := [.int (nI i)]) (rest := [.ref rv]) ⟨hx, hb, hml, hown, hts⟩ (m_X2_get l hst g L f _ hN _ _ _ _ _ ad aw _ hL_rv hf_rv hL_pa hf_pa (by omega) hnv hpl) (cwV 1 hts gX4_at_X2_get rfl rfl rfl (by decide +kernel) ⟨Nat.le_of_ble_eq_true rfl, Nat.le_of_ble_eq_true rfl⟩) hK hZ hP hS hL_rv hf_rv rfl rfl hl.1 rfl (Nat.le_of_ble_eq_true rfl) dX4_at_22 ⟨(by show i + 1 ≤ 7; omega), (by show 6 * (i + 1) ≤ 42; omega)⟩ (fun E ce q9 H locs hxc _ _ _ _ _ => by exfalso; rw [inB_nI (by omega) (by omega)] at hxc; exact absurd hxc.2 (by decide)) (fun x22 H locs hr22 hP hS => ?_)
        obtain ⟨i2, hi2, hii, rfl⟩ := hr22
        obtain rfl : i = i2 := (nI_eq (by omega) (by omega)).mp hii
        have q22 := hV i (by omega)
        obtain ⟨hL_ad_i, hf_ad_i, hL_aw_i, hf_aw_i⟩ := q22
        refine ro_V (As := [.ref (ad i)]) (rest := []) ⟨hx, hb, hml, hown, hts⟩ (m_X2_placeOf l g L f _ _ _ _ _ _ _ _ _ _ (vs i) hL_rv hf_rv hL_pa hf_pa hL_ad_i hf_ad_i (by omega) hnv hpl hV) (cwV 1 hts gX4_at_X2_placeOf rfl rfl rfl (by decide +kernel) ⟨Nat.le_of_ble_eq_true rfl, Nat.le_of_ble_eq_true rfl⟩) hK hP hL_rv hf_rv rfl rfl hl.1 rfl (Nat.le_of_ble_eq_true rfl) dX4_at_25 ⟨(by show i + 1 ≤ 7; omega), (by show 6 * (i + 1) ≤ 42; omega)⟩ (fun r25 hr25 => ?_)
        have hr25 : r25 = placeV vs nv (vs i) := hr25
        subst hr25
        refine lv_iload_n hx hb dX4_at_28 rfl (lv_at hl 1 rfl) ?_
        refine lv_icmp_ne (tgt := 34) hx hb dX4_at_29 (by decide) (fun c29 => ?_) (fun c29 => ?_)
        · skip
          refine lv_iinc (v := nI (i + 1)) (lv' := [(2, .int (nI (i + 1))), (1, .int pl_), (0, .ref lo)]) hx hb dX4_at_34 hl (k := 0) rfl (nI_1 _) (by decide) rfl (fun ls hl => ?_)
          refine lv_goto (tgt := 2) hx hb dX4_at_37 (by decide) ?_
          refine W.widen (k := i + 1) (n := 6 * (i + 1)) (by omega) (by omega) ?_
          exact ih2 (i + 1) H locs (by omega) (by omega) (fun j hj => (Nat.lt_or_ge j i).elim (ha j) (fun q => by rw [show j = i from (by omega)]; exact c29)) hP hS ls (lv_sub hl [0, 1, 2] rfl)
        · skip
          refine lv_iload_n hx hb dX4_at_32 rfl (lv_at hl 0 rfl) ?_
          exact hend (nI i) f _ _ _ _ _ _ (⟨⟨i, by omega, rfl, c29, ha⟩, rfl⟩) hP hS rfl (by show i + 1 ≤ 7; omega) (by show 6 * (i + 1) ≤ 42; omega) dX4_at_33
  refine W.widen (k := 0) (n := 6 * (0)) (by omega) (by omega) ?_
  exact K2 _ 0 _ _ (Nat.lt_succ_self _) (Nat.zero_le _) (fun j hj => absurd hj (Nat.not_lt_zero j)) hP hS ls (lv_sub hl [0, 2, 1] rfl)

set_option maxHeartbeats 4000000 in
set_option maxRecDepth 100000 in
theorem m_X4_count (l : Launch) (hst : l.stackTraces = false) (g : GG) (L : List Nat) (f : Nat → va_E) (sz : Nat) (hN : L.Nodup) (lo we al rv d sy rt ed n ga ra : Nat) (mo : Int32) (gl rn sa kd nu : Nat → Int32) (so : Nat → Nat) (el : Nat → Option Nat) (pa nv : Nat) (pl : Nat → Option Nat) (ad aw : Nat → Nat) (vs : Nat → VV) (what : Int32) (hL_lo : lo ∈ L) (hf_lo : f lo = eO 5 [.ref we, .ref al, .ref rv, .int (nI d), .ref sy, .ref rt]) (hL_al : al ∈ L) (hf_al : f al = eO 0 [.int mo, .ref ed, .int (nI n)]) (hL_we : we ∈ L) (hf_we : f we = eO 4 [.ref ga, .ref ra]) (hL_ga : ga ∈ L) (hf_ga : f ga = eI g 12 gl) (hL_ra : ra ∈ L) (hf_ra : f ra = eZ g 12 rn) (hL_sy : sy ∈ L) (hf_sy : f sy = eI g 8 sa) (hL_rv : rv ∈ L) (hf_rv : f rv = eO 3 [.ref pa, .int (nI nv)]) (hL_pa : pa ∈ L) (hf_pa : f pa = eV g 6 pl) (hn : n ≤ 8) (hrn : ∀ k, k < 12 → ∃ b, rn k = b2i b) (hSg : Sgs g L f n ed so el kd nu) (hnv : nv ≤ 6) (hpl : ∀ v, v < 6 → pl v = some (ad v)) (hV : Vils g L f 6 ad aw vs) (hD : Dst 6 ad aw) (hd : d < 2 ^ 30) (hsy : ∀ v, v < 6 → sy ≠ aw v) : TW l g yX4_count wsX4_count 7 113 1 6 L f sz [.ref lo, .int what] (fun r f2 => ∃ k, k < 7 ∧ what = nI k ∧ r = countL (saS kd nu gl rn n d sa) rn vs n nv d k ∧ f2 sy = eI g 8 (if k = 5 then saS kd nu gl rn n d sa else sa) ∧ Fr f f2 [sy]) (fun E => E = "java/lang/IndexOutOfBoundsException" ∧ inB what 7 = false) := by
  refine TW.start (cc := cX4_count) (maxL := 2) (ret := .int) hst (by decide) rfl (by simp [lg_sl, Value.category]) (by decide) (by decide) ?_
  intro p e s m args below meth c Q ls hx hb hml hts hown hS hP hK hZ hl hend hthr hprop
  have hA : ∀ a ∈ L, AA L s.heap.size a := fun _ h => Or.inl h
  have hA2 : ∀ q, s.heap.size ≤ q → AA L s.heap.size q := fun _ h => Or.inr h
  have hl : lv_has ls 2 [(0, .ref lo), (1, .int what)] := hl
  have hi_X4 : ∀ w ∈ u_ws RX4 TX4 6, w ∈ wsX4_count := by decide +kernel
  have hFr : Fr f f [sy] := Fr.rf
  have n_lo_al : lo ≠ al := ne_e hf_lo hf_al (by simp)
  have n_lo_we : lo ≠ we := ne_e hf_lo hf_we (by simp)
  have n_lo_ga : lo ≠ ga := ne_e hf_lo hf_ga (by simp)
  have n_lo_ra : lo ≠ ra := ne_e hf_lo hf_ra (by simp)
  have n_lo_sy : lo ≠ sy := ne_e hf_lo hf_sy (by simp)
  have n_lo_rv : lo ≠ rv := ne_e hf_lo hf_rv (by simp)
  have n_lo_pa : lo ≠ pa := ne_e hf_lo hf_pa (by simp)
  have n_al_we : al ≠ we := ne_e hf_al hf_we (by simp)
  have n_al_ga : al ≠ ga := ne_e hf_al hf_ga (by simp)
  have n_al_ra : al ≠ ra := ne_e hf_al hf_ra (by simp)
  have n_al_sy : al ≠ sy := ne_e hf_al hf_sy (by simp)
  have n_al_rv : al ≠ rv := ne_e hf_al hf_rv (by simp)
  have n_al_pa : al ≠ pa := ne_e hf_al hf_pa (by simp)
  have n_we_ga : we ≠ ga := ne_e hf_we hf_ga (by simp)
  have n_we_ra : we ≠ ra := ne_e hf_we hf_ra (by simp)
  have n_we_sy : we ≠ sy := ne_e hf_we hf_sy (by simp)
  have n_we_rv : we ≠ rv := ne_e hf_we hf_rv (by simp)
  have n_we_pa : we ≠ pa := ne_e hf_we hf_pa (by simp)
  have n_ga_sy : ga ≠ sy := ne_e hf_ga hf_sy (by simp)
  have n_ga_rv : ga ≠ rv := ne_e hf_ga hf_rv (by simp)
  have n_ga_pa : ga ≠ pa := ne_e hf_ga hf_pa (by simp)
  have n_ra_sy : ra ≠ sy := ne_e hf_ra hf_sy (by simp)
  have n_ra_rv : ra ≠ rv := ne_e hf_ra hf_rv (by simp)
  have n_ra_pa : ra ≠ pa := ne_e hf_ra hf_pa (by simp)
  have n_sy_rv : sy ≠ rv := ne_e hf_sy hf_rv (by simp)
  have n_sy_pa : sy ≠ pa := ne_e hf_sy hf_pa (by simp)
  have n_rv_pa : rv ≠ pa := ne_e hf_rv hf_pa (by simp)
  have h0f_lo := hf_lo
  have h0f_al := hf_al
  have h0f_we := hf_we
  have h0f_ga := hf_ga
  have h0f_ra := hf_ra
  have h0f_sy := hf_sy
  have h0f_rv := hf_rv
  have h0f_pa := hf_pa
  refine lv_iload_n hx hb dX4_count_0 rfl (lv_at hl 1 rfl) ?_
  refine lv_iconst (v := 0) hx hb dX4_count_1 (by decide) ?_
  refine lv_bipush (v := 6) hx hb dX4_count_2 (by decide) ?_
  refine tv_S (As := [.int what, .int 0, .int 6]) (rest := []) ⟨hx, hb, hml, hown, hts⟩ (m_X4_requireWhat l hst g L f _ hN what _ _ ) (va_cwS 3 hts gX4_count_X4_requireWhat rfl rfl rfl (by decide +kernel) ⟨Nat.le_of_ble_eq_true rfl, Nat.le_of_ble_eq_true rfl⟩) hK hZ hP hS rfl hl.1 rfl (Nat.le_of_ble_eq_true rfl) dX4_count_4 ⟨(Nat.le_of_ble_eq_true rfl), (Nat.le_of_ble_eq_true rfl)⟩ (fun E ce q9 H locs hxc hP hS hce hcv hcl => hprop E ce q9 _ _ _ _ _ _ _ (⟨hxc.1, (inB_le (k := 6) (by omega)).trans hxc.2⟩) hP hS hce hcv hcl (Nat.le_of_ble_eq_true rfl) (Nat.le_of_ble_eq_true rfl)) (fun f4 H locs hr4 hP hS => ?_)
  obtain ⟨hr4, hq4⟩ := hr4
  rw [hq4] at hP
  obtain ⟨k, hk, rfl⟩ := wh_in (k := 6) (by omega) hr4
  refine lv_iload_n hx hb dX4_count_7 rfl (lv_at hl 1 rfl) ?_
  by_cases k8_0 : k = 0
  · have q : (nI k).toInt = 0 := by rw [k8_0]; rfl
    refine lv_tableIn (off := 44) (tgt := 52) hx hb dX4_count_8 (by rw [q]; decide) (by rw [q]; decide) (by rw [q]; rfl) (by decide) ?_
    refine lv_aload_n hx hb dX4_count_52 rfl (lv_at hl 0 rfl) ?_
    refine pg_get (C := RX4) (T := TX4) (N := 6) hx hb hts hi_X4 hown hK hP hL_lo hf_lo rfl 3 (by decide) (hts (.fieldLink RX4 165 "BarometerLeague" "day" "I") (by decide +kernel)) (fun _ h9 => h9) rfl dX4_count_53 ?_
    exact hend (nI d) f _ _ _ _ _ _ (⟨k, hk, rfl, by unfold countL; rw [if_pos k8_0], by rw [if_neg (by omega)]; exact hf_sy, hFr⟩) hP hS rfl (Nat.le_of_ble_eq_true rfl) (Nat.le_of_ble_eq_true rfl) dX4_count_56
  by_cases k8_1 : k = 1
  · have q : (nI k).toInt = 1 := by rw [k8_1]; rfl
    refine lv_tableIn (off := 49) (tgt := 57) hx hb dX4_count_8 (by rw [q]; decide) (by rw [q]; decide) (by rw [q]; rfl) (by decide) ?_
    refine lv_aload_n hx hb dX4_count_57 rfl (lv_at hl 0 rfl) ?_
    refine pg_get (C := RX4) (T := TX4) (N := 6) hx hb hts hi_X4 hown hK hP hL_lo hf_lo rfl 1 (by decide) (hts (.fieldLink RX4 19 "BarometerLeague" "signs" "Ljava/util/ArrayList;") (by decide +kernel)) (fun _ h9 => h9) rfl dX4_count_58 ?_
    refine ro_V (As := []) (rest := []) ⟨hx, hb, hml, hown, hts⟩ (m_Jx4a65c_size_8abf5 l g L f _ _ _ _ hL_al hf_al) (cwV 0 hts gX4_count_Jx4a65c_size_8abf5 rfl rfl rfl (by decide +kernel) ⟨Nat.le_of_ble_eq_true rfl, Nat.le_of_ble_eq_true rfl⟩) hK hP hL_al hf_al rfl rfl hl.1 rfl (Nat.le_of_ble_eq_true rfl) dX4_count_61 ⟨(Nat.le_of_ble_eq_true rfl), (Nat.le_of_ble_eq_true rfl)⟩ (fun r61 hr61 => ?_)
    have hr61 : r61 = nI n := hr61
    subst hr61
    exact hend (nI n) f _ _ _ _ _ _ (⟨k, hk, rfl, by unfold countL; rw [if_neg k8_0, if_pos k8_1], by rw [if_neg (by omega)]; exact hf_sy, hFr⟩) hP hS rfl (Nat.le_of_ble_eq_true rfl) (Nat.le_of_ble_eq_true rfl) dX4_count_64
  by_cases k8_2 : k = 2
  · have q : (nI k).toInt = 2 := by rw [k8_2]; rfl
    refine lv_tableIn (off := 57) (tgt := 65) hx hb dX4_count_8 (by rw [q]; decide) (by rw [q]; decide) (by rw [q]; rfl) (by decide) ?_
    refine lv_aload_n hx hb dX4_count_65 rfl (lv_at hl 0 rfl) ?_
    refine pg_get (C := RX4) (T := TX4) (N := 6) hx hb hts hi_X4 hown hK hP hL_lo hf_lo rfl 2 (by decide) (hts (.fieldLink RX4 28 "BarometerLeague" "villages" "LBarometerLeague$VillageRow;") (by decide +kernel)) (fun _ h9 => h9) rfl dX4_count_66 ?_
    refine ro_V (As := []) (rest := []) ⟨hx, hb, hml, hown, hts⟩ (m_X2_size l g L f _ _ _ hL_rv hf_rv) (cwV 0 hts gX4_count_X2_size rfl rfl rfl (by decide +kernel) ⟨Nat.le_of_ble_eq_true rfl, Nat.le_of_ble_eq_true rfl⟩) hK hP hL_rv hf_rv rfl rfl hl.1 rfl (Nat.le_of_ble_eq_true rfl) dX4_count_69 ⟨(Nat.le_of_ble_eq_true rfl), (Nat.le_of_ble_eq_true rfl)⟩ (fun r69 hr69 => ?_)
    have hr69 : r69 = nI nv := hr69
    subst hr69
    exact hend (nI nv) f _ _ _ _ _ _ (⟨k, hk, rfl, by unfold countL; rw [if_neg k8_0, if_neg k8_1, if_pos k8_2], by rw [if_neg (by omega)]; exact hf_sy, hFr⟩) hP hS rfl (Nat.le_of_ble_eq_true rfl) (Nat.le_of_ble_eq_true rfl) dX4_count_72
  by_cases k8_6 : k = 6
  · have q : (nI k).toInt = 6 := by rw [k8_6]; rfl
    refine lv_tableIn (off := 65) (tgt := 73) hx hb dX4_count_8 (by rw [q]; decide) (by rw [q]; decide) (by rw [q]; rfl) (by decide) ?_
    refine lv_aload_n hx hb dX4_count_73 rfl (lv_at hl 0 rfl) ?_
    refine pg_get (C := RX4) (T := TX4) (N := 6) hx hb hts hi_X4 hown hK hP hL_lo hf_lo rfl 0 (by decide) (hts (.fieldLink RX4 10 "BarometerLeague" "weather" "LBarometerLeague$Weather;") (by decide +kernel)) (fun _ h9 => h9) rfl dX4_count_74 ?_
    refine ro_V (As := []) (rest := []) ⟨hx, hb, hml, hown, hts⟩ (m_X3_rainyDays l g L f _ _ _ _ _ hL_we hf_we hL_ga hf_ga hL_ra hf_ra hrn) (cwV 0 hts gX4_count_X3_rainyDays rfl rfl rfl (by decide +kernel) ⟨Nat.le_of_ble_eq_true rfl, Nat.le_of_ble_eq_true rfl⟩) hK hP hL_we hf_we rfl rfl hl.1 rfl (Nat.le_of_ble_eq_true rfl) dX4_count_77 ⟨(Nat.le_of_ble_eq_true rfl), (Nat.le_of_ble_eq_true rfl)⟩ (fun r77 hr77 => ?_)
    have hr77 : r77 = sumN rn 12 := hr77
    subst hr77
    exact hend (sumN rn 12) f _ _ _ _ _ _ (⟨k, hk, rfl, by unfold countL; rw [if_neg k8_0, if_neg k8_1, if_neg k8_2, if_pos k8_6], by rw [if_neg (by omega)]; exact hf_sy, hFr⟩) hP hS rfl (Nat.le_of_ble_eq_true rfl) (Nat.le_of_ble_eq_true rfl) dX4_count_80
  have q3 : (nI k).toInt = (k : Int) := nI_toInt (by omega)
  refine lv_tableIn (off := 73) (tgt := 81) hx hb dX4_count_8 (by rw [q3]; omega) (by rw [q3]; omega) (by rw [q3]; rcases (show k = 3 ∨ k = 4 ∨ k = 5 by omega) with rfl | rfl | rfl <;> rfl) (by decide) ?_
  refine lv_aload_n hx hb dX4_count_81 rfl (lv_at hl 0 rfl) ?_
  refine lv_aload_n hx hb dX4_count_82 rfl (lv_at hl 0 rfl) ?_
  refine pg_get (C := RX4) (T := TX4) (N := 6) hx hb hts hi_X4 hown hK hP hL_lo hf_lo rfl 2 (by decide) (hts (.fieldLink RX4 28 "BarometerLeague" "villages" "LBarometerLeague$VillageRow;") (by decide +kernel)) (fun _ h9 => h9) rfl dX4_count_83 ?_
  refine lv_iload_n hx hb dX4_count_86 rfl (lv_at hl 1 rfl) ?_
  refine lv_aload_n hx hb dX4_count_87 rfl (lv_at hl 0 rfl) ?_
  refine pg_get (C := RX4) (T := TX4) (N := 6) hx hb hts hi_X4 hown hK hP hL_lo hf_lo rfl 3 (by decide) (hts (.fieldLink RX4 165 "BarometerLeague" "day" "I") (by decide +kernel)) (fun _ h9 => h9) rfl dX4_count_88 ?_
  refine rw_V (As := [.ref rv, .int (nI k), .int (nI d)]) (rest := []) ⟨hx, hb, hml, hown, hts⟩ (m_X4_countOver l g L f _ hN _ _ _ _ _ _ _ _ _ _ _ _ _ _ _ _ _ _ _ _ _ _ _ _ _ _ _ k d hL_lo hf_lo hL_al hf_al hL_we hf_we hL_ga hf_ga hL_ra hf_ra hL_sy hf_sy hL_rv hf_rv hL_pa hf_pa hn hrn hd hSg (by omega) hnv hpl hV hD hsy (by omega)) (cwV 3 hts gX4_count_X4_countOver rfl rfl rfl (by decide +kernel) ⟨Nat.le_of_ble_eq_true rfl, Nat.le_of_ble_eq_true rfl⟩) hK hP hA hA2 hS hL_lo hf_lo rfl rfl hl.1 rfl (Nat.le_of_ble_eq_true rfl) dX4_count_91 ⟨(Nat.le_of_ble_eq_true rfl), (Nat.le_of_ble_eq_true rfl)⟩ (fun r91 f91 H locs hr91 hP hS => ?_)
  obtain ⟨hv91, hc91_0, hw91⟩ := hr91
  have hf_lo : f91 lo = eO 5 [.ref we, .ref al, .ref rv, .int (nI d), .ref sy, .ref rt] := hw91.get hf_lo (nm_c n_lo_sy (List.not_mem_nil))
  have hf_al : f91 al = eO 0 [.int mo, .ref ed, .int (nI n)] := hw91.get hf_al (nm_c n_al_sy (List.not_mem_nil))
  have hf_we : f91 we = eO 4 [.ref ga, .ref ra] := hw91.get hf_we (nm_c n_we_sy (List.not_mem_nil))
  have hf_ga : f91 ga = eI g 12 gl := hw91.get hf_ga (nm_c n_ga_sy (List.not_mem_nil))
  have hf_ra : f91 ra = eZ g 12 rn := hw91.get hf_ra (nm_c n_ra_sy (List.not_mem_nil))
  have hf_rv : f91 rv = eO 3 [.ref pa, .int (nI nv)] := hw91.get hf_rv (nm_c n_sy_rv.symm (List.not_mem_nil))
  have hf_pa : f91 pa = eV g 6 pl := hw91.get hf_pa (nm_c n_sy_pa.symm (List.not_mem_nil))
  have hf_sy : f91 sy = eI g 8 (if k = 5 then saS kd nu gl rn n d sa else sa) := hc91_0
  replace hFr : Fr f f91 [sy] := hFr.tr hw91 (by simp)
  exact hend (r91) f91 _ _ _ _ _ _ (⟨k, hk, rfl, by unfold countL; rw [if_neg k8_0, if_neg k8_1, if_neg k8_2, if_neg k8_6]; exact hv91, hf_sy, hFr⟩) hP hS rfl (Nat.le_of_ble_eq_true rfl) (Nat.le_of_ble_eq_true rfl) dX4_count_94

set_option maxHeartbeats 4000000 in
set_option maxRecDepth 100000 in
theorem m_X4_best (l : Launch) (g : GG) (L : List Nat) (f : Nat → va_E) (lo we al rv d sy rt ed n ga ra : Nat) (mo : Int32) (gl rn sa kd nu : Nat → Int32) (so : Nat → Nat) (el : Nat → Option Nat) (hL_lo : lo ∈ L) (hf_lo : f lo = eO 5 [.ref we, .ref al, .ref rv, .int (nI d), .ref sy, .ref rt]) (hL_al : al ∈ L) (hf_al : f al = eO 0 [.int mo, .ref ed, .int (nI n)]) (hL_we : we ∈ L) (hf_we : f we = eO 4 [.ref ga, .ref ra]) (hL_ga : ga ∈ L) (hf_ga : f ga = eI g 12 gl) (hL_ra : ra ∈ L) (hf_ra : f ra = eZ g 12 rn) (hn : n ≤ 8) (hrn : ∀ k, k < 12 → ∃ b, rn k = b2i b) (hSg : Sgs g L f n ed so el kd nu) : RO l g yX4_best wsX4_best 4 91 L f [.ref lo] (fun r => r = (bestL (fun j => rightN (kd j) (nu j) gl rn 12) n).2) := by
  refine RO.start (cc := cX4_best) (maxL := 5) (ret := .int) (by decide +kernel) rfl (by simp [lg_sl, Value.category]) ?_
  intro p e s m args below meth c Q ls hx hb hml hts hown hP hK hl hend
  have hl : lv_has ls 5 [(0, .ref lo)] := hl
  have hi_X4 : ∀ w ∈ u_ws RX4 TX4 6, w ∈ wsX4_best := by decide +kernel
  have n_lo_al : lo ≠ al := ne_e hf_lo hf_al (by simp)
  have n_lo_we : lo ≠ we := ne_e hf_lo hf_we (by simp)
  have n_lo_ga : lo ≠ ga := ne_e hf_lo hf_ga (by simp)
  have n_lo_ra : lo ≠ ra := ne_e hf_lo hf_ra (by simp)
  have n_al_we : al ≠ we := ne_e hf_al hf_we (by simp)
  have n_al_ga : al ≠ ga := ne_e hf_al hf_ga (by simp)
  have n_al_ra : al ≠ ra := ne_e hf_al hf_ra (by simp)
  have n_we_ga : we ≠ ga := ne_e hf_we hf_ga (by simp)
  have n_we_ra : we ≠ ra := ne_e hf_we hf_ra (by simp)
  refine lv_iconst (v := (-1)) hx hb dX4_best_0 (by decide) ?_
  refine lv_istore_n (lv' := [(1, .int (-1)), (0, .ref lo)]) hx hb dX4_best_1 rfl hl (by decide) rfl (fun ls hl => ?_)
  refine lv_iconst (v := (-1)) hx hb dX4_best_2 (by decide) ?_
  refine lv_istore_n (lv' := [(2, .int (-1)), (1, .int (-1)), (0, .ref lo)]) hx hb dX4_best_3 rfl hl (by decide) rfl (fun ls hl => ?_)
  refine lv_iconst (v := 0) hx hb dX4_best_4 (by decide) ?_
  refine lv_istore_n (lv' := [(3, .int 0), (2, .int (-1)), (1, .int (-1)), (0, .ref lo)]) hx hb dX4_best_5 rfl hl (by decide) rfl (fun ls hl => ?_)
  have K6 : ∀ (n6 : Nat) (i : Nat) (a1 : Int32) (b1 : Int32), n - i < n6 → i ≤ n → a1 = (bestL (fun j => rightN (kd j) (nu j) gl rn 12) i).1 → b1 = (bestL (fun j => rightN (kd j) (nu j) gl rn 12) i).2 → ∀ (ls : Array Slot), lv_has ls 5 [(3, .int (nI i)), (2, .int b1), (1, .int a1), (0, .ref lo)] → W p l e ({ frames := 4, cells := 0, slots := 0, locals := 91 } : Room) s m args below meth c s.heap [] 0 0 Q (F0 m 6 ls []) := by
    intro n6
    induction n6 with
    | zero => intros; omega
    | succ n6 ih6 =>
      intro i a1 b1 hm6 hi ha hb2 ls hl
      refine lv_iload_n hx hb dX4_best_6 rfl (lv_at hl 0 rfl) ?_
      refine lv_aload_n hx hb dX4_best_7 rfl (lv_at hl 3 rfl) ?_
      refine pg_get (C := RX4) (T := TX4) (N := 6) hx hb hts hi_X4 hown hK hP hL_lo hf_lo rfl 1 (by decide) (hts (.fieldLink RX4 19 "BarometerLeague" "signs" "Ljava/util/ArrayList;") (by decide +kernel)) (fun _ h9 => h9) rfl dX4_best_8 ?_
      refine ro_V (As := []) (rest := [.int (nI i)]) ⟨hx, hb, hml, hown, hts⟩ (m_Jx4a65c_size_8abf5 l g L f _ _ _ _ hL_al hf_al) (cwV 0 hts gX4_best_Jx4a65c_size_8abf5 rfl rfl rfl (by decide +kernel) ⟨Nat.le_of_ble_eq_true rfl, Nat.le_of_ble_eq_true rfl⟩) hK hP hL_al hf_al rfl rfl hl.1 rfl (Nat.le_of_ble_eq_true rfl) dX4_best_11 ⟨Nat.zero_le _, Nat.zero_le _⟩ (fun r11 hr11 => ?_)
      have hr11 : r11 = nI n := hr11
      subst hr11
      refine lv_icmp_ge (tgt := 54) hx hb dX4_best_14 (by decide) (fun c14 => ?_) (fun c14 => ?_)
      · skip
        have c14 : n ≤ i := (nI_leI (a := n) (b := i) (by omega) (by omega)).mp (show nI n ≤ nI i from c14)
        refine lv_iload_n hx hb dX4_best_54 rfl (lv_at hl 1 rfl) ?_
        exact hend (b1) _ _ (by rw [hb2, show i = n from (by omega)]) rfl dX4_best_55
      · skip
        have c14 : ¬ n ≤ i := fun h => c14 ((nI_leI (a := n) (b := i) (by omega) (by omega)).mpr h)
        obtain ⟨hL_so_i, hf_so_i, hel_so_i, hL_ed, hf_ed⟩ := hSg i (by omega)
        refine lv_aload_n hx hb dX4_best_17 rfl (lv_at hl 3 rfl) ?_
        refine pg_get (C := RX4) (T := TX4) (N := 6) hx hb hts hi_X4 hown hK hP hL_lo hf_lo rfl 1 (by decide) (hts (.fieldLink RX4 19 "BarometerLeague" "signs" "Ljava/util/ArrayList;") (by decide +kernel)) (fun _ h9 => h9) rfl dX4_best_18 ?_
        refine lv_iload_n hx hb dX4_best_21 rfl (lv_at hl 0 rfl) ?_
        refine rq_V (As := [.int (nI i)]) (rest := []) ⟨hx, hb, hml, hown, hts⟩ (m_Jx4a65c_get_915e3 l g L f al ed n (so i) i _ el hL_al hf_al hL_ed hf_ed (by omega) hn hel_so_i) (cwV 1 hts gX4_best_Jx4a65c_get_915e3 rfl rfl rfl (by decide +kernel) ⟨Nat.le_of_ble_eq_true rfl, Nat.le_of_ble_eq_true rfl⟩) hK hP hL_al hf_al rfl rfl hl.1 rfl (Nat.le_of_ble_eq_true rfl) dX4_best_22 ⟨Nat.zero_le _, Nat.zero_le _⟩ ?_
        refine va_castS hx hb hown (hts (.classLink RX4 78 "BarometerLeague$Sign") (by decide +kernel)) (hK.1.1 1 _ rfl).2 (pg_recv hK hP hL_so_i hf_so_i rfl) dX4_best_25 ?_
        refine lv_aload_n hx hb dX4_best_28 rfl (lv_at hl 3 rfl) ?_
        refine pg_get (C := RX4) (T := TX4) (N := 6) hx hb hts hi_X4 hown hK hP hL_lo hf_lo rfl 0 (by decide) (hts (.fieldLink RX4 10 "BarometerLeague" "weather" "LBarometerLeague$Weather;") (by decide +kernel)) (fun _ h9 => h9) rfl dX4_best_29 ?_
        refine ro_V (As := [.ref we]) (rest := []) ⟨hx, hb, hml, hown, hts⟩ (m_X0_daysRight l g L f _ _ _ _ _ _ _ _ hL_so_i hf_so_i hL_we hf_we hL_ga hf_ga hL_ra hf_ra hrn) (cwV 1 hts gX4_best_X0_daysRight rfl rfl rfl (by decide +kernel) ⟨Nat.le_of_ble_eq_true rfl, Nat.le_of_ble_eq_true rfl⟩) hK hP hL_so_i hf_so_i rfl rfl hl.1 rfl (Nat.le_of_ble_eq_true rfl) dX4_best_32 ⟨Nat.zero_le _, Nat.zero_le _⟩ (fun r32 hr32 => ?_)
        have hr32 : r32 = rightN (kd i) (nu i) gl rn 12 := hr32
        subst hr32
        refine lv_istore (lv' := [(4, .int (rightN (kd i) (nu i) gl rn 12)), (3, .int (nI i)), (2, .int b1), (1, .int a1), (0, .ref lo)]) hx hb dX4_best_35 hl (by decide) rfl (fun ls hl => ?_)
        refine lv_iload hx hb dX4_best_37 (lv_at hl 0 rfl) ?_
        refine lv_iload_n hx hb dX4_best_39 rfl (lv_at hl 3 rfl) ?_
        refine lv_icmp_le (tgt := 48) hx hb dX4_best_40 (by decide) (fun c40 => ?_) (fun c40 => ?_)
        · skip
          refine lv_iinc (v := nI (i + 1)) (lv' := [(3, .int (nI (i + 1))), (4, .int (rightN (kd i) (nu i) gl rn 12)), (2, .int b1), (1, .int a1), (0, .ref lo)]) hx hb dX4_best_48 hl (k := 1) rfl (nI_1 _) (by decide) rfl (fun ls hl => ?_)
          refine lv_goto (tgt := 6) hx hb dX4_best_51 (by decide) ?_
          exact ih6 (i + 1) a1 b1 (by omega) (by omega) ((bestL_f (r := (fun j => rightN (kd j) (nu j) gl rn 12)) ha hb2 c40).1) ((bestL_f (r := (fun j => rightN (kd j) (nu j) gl rn 12)) ha hb2 c40).2) ls (lv_sub hl [0, 2, 3, 4] rfl)
        · skip
          refine lv_iload hx hb dX4_best_43 (lv_at hl 0 rfl) ?_
          refine lv_istore_n (lv' := [(1, .int (rightN (kd i) (nu i) gl rn 12)), (4, .int (rightN (kd i) (nu i) gl rn 12)), (3, .int (nI i)), (2, .int b1), (0, .ref lo)]) hx hb dX4_best_45 rfl hl (by decide) rfl (fun ls hl => ?_)
          refine lv_iload_n hx hb dX4_best_46 rfl (lv_at hl 2 rfl) ?_
          refine lv_istore_n (lv' := [(2, .int (nI i)), (1, .int (rightN (kd i) (nu i) gl rn 12)), (4, .int (rightN (kd i) (nu i) gl rn 12)), (3, .int (nI i)), (0, .ref lo)]) hx hb dX4_best_47 rfl hl (by decide) rfl (fun ls hl => ?_)
          refine lv_iinc (v := nI (i + 1)) (lv' := [(3, .int (nI (i + 1))), (2, .int (nI i)), (1, .int (rightN (kd i) (nu i) gl rn 12)), (4, .int (rightN (kd i) (nu i) gl rn 12)), (0, .ref lo)]) hx hb dX4_best_48 hl (k := 3) rfl (nI_1 _) (by decide) rfl (fun ls hl => ?_)
          refine lv_goto (tgt := 6) hx hb dX4_best_51 (by decide) ?_
          exact ih6 (i + 1) (rightN (kd i) (nu i) gl rn 12) (nI i) (by omega) (by omega) ((bestL_t (r := (fun j => rightN (kd j) (nu j) gl rn 12)) (b := b1) ha c40).1) ((bestL_t (r := (fun j => rightN (kd j) (nu j) gl rn 12)) (b := b1) ha c40).2) ls (lv_sub hl [0, 1, 2, 4] rfl)
  exact K6 _ 0 (-1) (-1) (Nat.lt_succ_self _) (Nat.zero_le _) (rfl) (rfl) ls (lv_sub hl [0, 1, 2, 3] rfl)

set_option maxHeartbeats 4000000 in
set_option maxRecDepth 100000 in
theorem m_X4_join (l : Launch) (hst : l.stackTraces = false) (g : GG) (L : List Nat) (f : Nat → va_E) (sz : Nat) (hN : L.Nodup) (lo we al rv d sy rt pa nv : Nat) (pl : Nat → Option Nat) (hL_lo : lo ∈ L) (hf_lo : f lo = eO 5 [.ref we, .ref al, .ref rv, .int (nI d), .ref sy, .ref rt]) (hL_rv : rv ∈ L) (hf_rv : f rv = eO 3 [.ref pa, .int (nI nv)]) (hL_pa : pa ∈ L) (hf_pa : f pa = eV g 6 pl) (hnv : nv ≤ 6) : TW l g yX4_join wsX4_join 6 90 1 6 L f sz [.ref lo] (fun r f2 => nv < 6 ∧ r = nI nv ∧ f2 rv = eO 3 [.ref pa, .int (nI (nv + 1))] ∧ Fr f f2 [rv]) (fun E => E = "java/lang/IllegalStateException" ∧ nv = 6) := by
  refine TW.start (cc := cX4_join) (maxL := 1) (ret := .int) hst (by decide) rfl (by simp [lg_sl, Value.category]) (by decide) (by decide) ?_
  intro p e s m args below meth c Q ls hx hb hml hts hown hS hP hK hZ hl hend hthr hprop
  have hA : ∀ a ∈ L, AA L s.heap.size a := fun _ h => Or.inl h
  have hA2 : ∀ q, s.heap.size ≤ q → AA L s.heap.size q := fun _ h => Or.inr h
  have hl : lv_has ls 1 [(0, .ref lo)] := hl
  have hi_X4 : ∀ w ∈ u_ws RX4 TX4 6, w ∈ wsX4_join := by decide +kernel
  have hFr : Fr f f [rv] := Fr.rf
  have n_lo_rv : lo ≠ rv := ne_e hf_lo hf_rv (by simp)
  have n_lo_pa : lo ≠ pa := ne_e hf_lo hf_pa (by simp)
  have n_rv_pa : rv ≠ pa := ne_e hf_rv hf_pa (by simp)
  have h0f_lo := hf_lo
  have h0f_rv := hf_rv
  have h0f_pa := hf_pa
  refine lv_aload_n hx hb dX4_join_0 rfl (lv_at hl 0 rfl) ?_
  refine pg_get (C := RX4) (T := TX4) (N := 6) hx hb hts hi_X4 hown hK hP hL_lo hf_lo rfl 2 (by decide) (hts (.fieldLink RX4 28 "BarometerLeague" "villages" "LBarometerLeague$VillageRow;") (by decide +kernel)) (fun _ h9 => h9) rfl dX4_join_1 ?_
  refine ro_V (As := []) (rest := []) ⟨hx, hb, hml, hown, hts⟩ (m_X2_isFull l g L f _ _ _ _ _ hL_rv hf_rv hL_pa hf_pa (by omega) hnv) (cwV 0 hts gX4_join_X2_isFull rfl rfl rfl (by decide +kernel) ⟨Nat.le_of_ble_eq_true rfl, Nat.le_of_ble_eq_true rfl⟩) hK hP hL_rv hf_rv rfl rfl hl.1 rfl (Nat.le_of_ble_eq_true rfl) dX4_join_4 ⟨(Nat.le_of_ble_eq_true rfl), (Nat.le_of_ble_eq_true rfl)⟩ (fun r4 hr4 => ?_)
  have hr4 : r4 = b2i (decide (6 ≤ nv)) := hr4
  subst hr4
  refine lv_if_eq (tgt := 20) hx hb dX4_join_7 (by decide) (fun c7 => ?_) (fun c7 => ?_)
  · skip
    have h6 : nv < 6 := Nat.not_le.mp (fun q => by rw [decide_eq_true q] at c7; exact absurd c7 (by decide))
    refine lv_aload_n hx hb dX4_join_20 rfl (lv_at hl 0 rfl) ?_
    refine pg_get (C := RX4) (T := TX4) (N := 6) hx hb hts hi_X4 hown hK hP hL_lo hf_lo rfl 2 (by decide) (hts (.fieldLink RX4 28 "BarometerLeague" "villages" "LBarometerLeague$VillageRow;") (by decide +kernel)) (fun _ h9 => h9) rfl dX4_join_21 ?_
    refine rv_V (As := []) (rest := []) ⟨hx, hb, hml, hown, hts⟩ (m_X2_grow l g L f _ hN _ _ _ _ _ hL_rv hf_rv hL_pa hf_pa (by omega) (by omega)) (cwV 0 hts gX4_join_X2_grow rfl rfl rfl (by decide +kernel) ⟨Nat.le_of_ble_eq_true rfl, Nat.le_of_ble_eq_true rfl⟩) hK hP hA hA2 hS hL_rv hf_rv rfl rfl hl.1 rfl (Nat.le_of_ble_eq_true rfl) dX4_join_24 ⟨(Nat.le_of_ble_eq_true rfl), (Nat.le_of_ble_eq_true rfl)⟩ (fun f24 H locs hr24 hP hS => ?_)
    obtain ⟨hc24_0, hw24⟩ := hr24
    have hf_lo : f24 lo = eO 5 [.ref we, .ref al, .ref rv, .int (nI d), .ref sy, .ref rt] := hw24.get hf_lo (nm_c n_lo_rv (List.not_mem_nil))
    have hf_pa : f24 pa = eV g 6 pl := hw24.get hf_pa (nm_c n_rv_pa.symm (List.not_mem_nil))
    have hf_rv : f24 rv = eO 3 [.ref pa, .int (nI (nv + 1))] := hc24_0
    replace hFr : Fr f f24 [rv] := hFr.tr hw24 (by simp)
    refine lv_aload_n hx hb dX4_join_27 rfl (lv_at hl 0 rfl) ?_
    refine pg_get (C := RX4) (T := TX4) (N := 6) hx hb hts hi_X4 hown hK hP hL_lo hf_lo rfl 2 (by decide) (hts (.fieldLink RX4 28 "BarometerLeague" "villages" "LBarometerLeague$VillageRow;") (by decide +kernel)) (fun _ h9 => h9) rfl dX4_join_28 ?_
    refine ro_V (As := []) (rest := []) ⟨hx, hb, hml, hown, hts⟩ (m_X2_size l g L f24 _ _ _ hL_rv hf_rv) (cwV 0 hts gX4_join_X2_size rfl rfl rfl (by decide +kernel) ⟨Nat.le_of_ble_eq_true rfl, Nat.le_of_ble_eq_true rfl⟩) hK hP hL_rv hf_rv rfl rfl hl.1 rfl (Nat.le_of_ble_eq_true rfl) dX4_join_31 ⟨(Nat.le_of_ble_eq_true rfl), (Nat.le_of_ble_eq_true rfl)⟩ (fun r31 hr31 => ?_)
    have hr31 : r31 = nI (nv + 1) := hr31
    subst hr31
    refine lv_iconst (v := 1) hx hb dX4_join_34 (by decide) ?_
    refine lv_isub hx hb dX4_join_35 ?_
    refine lv_topi (fun v35 ev35 => ?_)
    exact hend (v35) f24 _ _ _ _ _ _ (⟨h6, by rw [ev35]; exact nI_pred nv, hf_rv, hFr⟩) hP hS rfl (Nat.le_of_ble_eq_true rfl) (Nat.le_of_ble_eq_true rfl) dX4_join_36
  · skip
    exact hthr "java/lang/IllegalStateException" "there are 6 villages" 58 8 73 90 77 _ _ _ _ 10 _ (⟨rfl, by have q : ¬ nv < 6 := fun q => c7 (by rw [decide_eq_false (by omega)]; rfl); omega⟩) hP hS (Nat.le_of_ble_eq_true rfl) (Nat.le_of_ble_eq_true rfl) (by decide +kernel) rfl rfl (hts (.classLink RX4 73 "java/lang/IllegalStateException") (by decide +kernel)) (hts (.initialized "java/lang/IllegalStateException") (by decide +kernel)) (by decide +kernel) (by decide +kernel) (by decide +kernel) hl.1 ⟨dX4_join_10, dX4_join_13, dX4_join_14, dX4_join_16, dX4_join_19⟩
