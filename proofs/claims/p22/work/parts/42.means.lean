set_option maxHeartbeats 4000000 in
set_option maxRecDepth 100000 in
theorem m_X4_mean (l : Launch) (g : GG) (L : List Nat) (f : Nat → va_E) (sz : Nat) (hN : L.Nodup) (lo we al rv d sy rt ed n : Nat) (mo : Int32) (pa nv : Nat) (pl : Nat → Option Nat) (ad aw : Nat → Nat) (vs : Nat → VV) (hL_lo : lo ∈ L) (hf_lo : f lo = eO 5 [.ref we, .ref al, .ref rv, .int (nI d), .ref sy, .ref rt]) (hL_rv : rv ∈ L) (hf_rv : f rv = eO 3 [.ref pa, .int (nI nv)]) (hL_pa : pa ∈ L) (hf_pa : f pa = eV g 6 pl) (hnv : nv ≤ 6) (hpl : ∀ v, v < 6 → pl v = some (ad v)) (hV : Vils g L f 6 ad aw vs) : RD l g yX4_mean wsX4_mean 1 22 L f sz [.ref lo] (fun r f2 => meanD (sumN (fun v => (vs v).2.1) nv) nv r ∧ f2 = f) := by
  refine RD.start (cc := cX4_mean) (maxL := 1) (by decide +kernel) rfl (by simp [lg_sl, Value.category]) ?_
  intro p e s m args below meth c Q ls A hx hb hml hts hown hA hA2 hS hP hK hl hend
  have hl : lv_has ls 1 [(0, .ref lo)] := hl
  have hi_X4 : ∀ w ∈ u_ws RX4 TX4 6, w ∈ wsX4_mean := by decide +kernel
  have hFr : Fr f f [] := Fr.rf
  have n_lo_rv : lo ≠ rv := ne_e hf_lo hf_rv (by simp)
  have n_lo_pa : lo ≠ pa := ne_e hf_lo hf_pa (by simp)
  have n_rv_pa : rv ≠ pa := ne_e hf_rv hf_pa (by simp)
  have h0f_lo := hf_lo
  have h0f_rv := hf_rv
  have h0f_pa := hf_pa
  refine lv_aload_n hx hb dX4_mean_0 rfl (lv_at hl 0 rfl) ?_
  refine pg_get (C := RX4) (T := TX4) (N := 6) hx hb hts hi_X4 hown hK hP hL_lo hf_lo rfl 2 (by decide) (hts (.fieldLink RX4 28 "BarometerLeague" "villages" "LBarometerLeague$VillageRow;") (by decide +kernel)) (fun _ h9 => h9) rfl dX4_mean_1 ?_
  refine ro_V (As := []) (rest := []) ⟨hx, hb, hml, hown, hts⟩ (m_X2_size l g L f _ _ _ hL_rv hf_rv) (cwV 0 hts gX4_mean_X2_size rfl rfl rfl (by decide +kernel) ⟨Nat.le_of_ble_eq_true rfl, Nat.le_of_ble_eq_true rfl⟩) hK hP hL_rv hf_rv rfl rfl hl.1 rfl (Nat.le_of_ble_eq_true rfl) dX4_mean_4 ⟨Nat.zero_le _, Nat.zero_le _⟩ (fun r4 hr4 => ?_)
  have hr4 : r4 = nI nv := hr4
  subst hr4
  refine lv_if_ne (tgt := 12) hx hb dX4_mean_7 (by decide) (fun c7 => ?_) (fun c7 => ?_)
  · skip
    have c7 : ¬ nv = 0 := fun h => c7 ((nI_eq (a := nv) (b := 0) (by omega) (by omega)).mpr h)
    refine lv_aload_n hx hb dX4_mean_12 rfl (lv_at hl 0 rfl) ?_
    refine pg_get (C := RX4) (T := TX4) (N := 6) hx hb hts hi_X4 hown hK hP hL_lo hf_lo rfl 2 (by decide) (hts (.fieldLink RX4 28 "BarometerLeague" "villages" "LBarometerLeague$VillageRow;") (by decide +kernel)) (fun _ h9 => h9) rfl dX4_mean_13 ?_
    refine ro_V (As := []) (rest := []) ⟨hx, hb, hml, hown, hts⟩ (m_X2_allPoints l g L f _ _ _ _ _ _ _ _ hL_rv hf_rv hL_pa hf_pa (by omega) hnv hpl hV) (cwV 0 hts gX4_mean_X2_allPoints rfl rfl rfl (by decide +kernel) ⟨Nat.le_of_ble_eq_true rfl, Nat.le_of_ble_eq_true rfl⟩) hK hP hL_rv hf_rv rfl rfl hl.1 rfl (Nat.le_of_ble_eq_true rfl) dX4_mean_16 ⟨Nat.zero_le _, Nat.zero_le _⟩ (fun r16 hr16 => ?_)
    have hr16 : r16 = sumN (fun v => (vs v).2.1) nv := hr16
    subst hr16
    refine lv_i2d hx hb dX4_mean_19 ?_
    refine lv_aload_n hx hb dX4_mean_20 rfl (lv_at hl 0 rfl) ?_
    refine pg_get (C := RX4) (T := TX4) (N := 6) hx hb hts hi_X4 hown hK hP hL_lo hf_lo rfl 2 (by decide) (hts (.fieldLink RX4 28 "BarometerLeague" "villages" "LBarometerLeague$VillageRow;") (by decide +kernel)) (fun _ h9 => h9) rfl dX4_mean_21 ?_
    refine ro_V (As := []) (rest := [.double (FP.i2d (sumN (fun v => (vs v).2.1) nv))]) ⟨hx, hb, hml, hown, hts⟩ (m_X2_size l g L f _ _ _ hL_rv hf_rv) (cwV 0 hts gX4_mean_X2_size rfl rfl rfl (by decide +kernel) ⟨Nat.le_of_ble_eq_true rfl, Nat.le_of_ble_eq_true rfl⟩) hK hP hL_rv hf_rv rfl rfl hl.1 rfl (Nat.le_of_ble_eq_true rfl) dX4_mean_24 ⟨Nat.zero_le _, Nat.zero_le _⟩ (fun r24 hr24 => ?_)
    have hr24 : r24 = nI nv := hr24
    subst hr24
    refine lv_i2d hx hb dX4_mean_27 ?_
    refine W.base ?_
    refine lv_ddiv_any (Drawn.sameBut.refl s.drawn lw_cs) lw_bits hx hb dX4_mean_28 (fun r28 d1 hal28 hd1 => ?_)
    exact hend d1 hd1 r28 f _ _ _ _ (⟨Or.inr ⟨c7, hal28⟩, rfl⟩) hP hS dX4_mean_29
  · skip
    have c7 : nv = 0 := (nI_eq (a := nv) (b := 0) (by omega) (by omega)).mp (show nI nv = nI 0 from c7)
    refine lv_dconst0 hx hb dX4_mean_10 ?_
    refine W.base ?_
    exact hend s.drawn (Drawn.sameBut.refl s.drawn lw_cs) FP.dconst0 f _ _ _ _ (⟨Or.inl ⟨c7, rfl⟩, rfl⟩) hP hS dX4_mean_11
