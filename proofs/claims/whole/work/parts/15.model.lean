set_option maxHeartbeats 4000000 in
set_option maxRecDepth 100000 in
theorem m_X6_isIn (l : Launch) (g : GG) (L : List Nat) (f : Nat → va_E) (v lo hi : Int32) : RO l g yX6_isIn wsX6_isIn 0 0 L f [.int v, .int lo, .int hi] (fun r => r = b2i (decide (lo ≤ v ∧ v ≤ hi))) := by
  refine RO.start (cc := cX6_isIn) (maxL := 3) (ret := .boolean) (by decide +kernel) rfl (by simp [lg_sl, Value.category]) ?_
  intro p e s m args below meth c Q ls hx hb hml hts hown hP hK hl hend
  have hl : lv_has ls 3 [(0, .int v), (1, .int lo), (2, .int hi)] := hl
  refine lv_iload_n hx hb dX6_isIn_0 rfl (lv_at hl 0 rfl) ?_
  refine lv_iload_n hx hb dX6_isIn_1 rfl (lv_at hl 1 rfl) ?_
  refine lv_icmp_lt (tgt := 14) hx hb dX6_isIn_2 (by decide) (fun c2 => ?_) (fun c2 => ?_)
  · skip
    refine lv_iconst (v := 0) hx hb dX6_isIn_14 (by decide) ?_
    exact hend (0) _ _ (bf rfl (fun h => Int32.not_lt.mpr h.1 c2)) rfl dX6_isIn_15
  · skip
    refine lv_iload_n hx hb dX6_isIn_5 rfl (lv_at hl 0 rfl) ?_
    refine lv_iload_n hx hb dX6_isIn_6 rfl (lv_at hl 2 rfl) ?_
    refine lv_icmp_gt (tgt := 14) hx hb dX6_isIn_7 (by decide) (fun c7 => ?_) (fun c7 => ?_)
    · skip
      refine lv_iconst (v := 0) hx hb dX6_isIn_14 (by decide) ?_
      exact hend (0) _ _ (bf rfl (fun h => Int32.not_le.mpr c7 h.2)) rfl dX6_isIn_15
    · skip
      refine lv_iconst (v := 1) hx hb dX6_isIn_10 (by decide) ?_
      refine lv_goto (tgt := 15) hx hb dX6_isIn_11 (by decide) ?_
      exact hend (1) _ _ (bt rfl ⟨Int32.not_lt.mp c2, Int32.not_lt.mp c7⟩) rfl dX6_isIn_15

set_option maxHeartbeats 4000000 in
set_option maxRecDepth 100000 in
theorem m_X6_isSign (l : Launch) (g : GG) (L : List Nat) (f : Nat → va_E) (mh mg mr mk mn ms nw ah n nv : Nat) (th : Int32) (x : Int32) (hL_mh : mh ∈ L) (hf_mh : f mh = eO 7 [.int th, .ref mg, .ref mr, .int (nI n), .ref mk, .ref mn, .int (nI nv), .ref ms, .ref nw, .ref ah]) (hn : n ≤ 8) (hnv : nv ≤ 6) : RO l g yX6_isSign wsX6_isSign 1 22 L f [.ref mh, .int x] (fun r => r = b2i (inB x n)) := by
  refine RO.start (cc := cX6_isSign) (maxL := 2) (ret := .boolean) (by decide +kernel) rfl (by simp [lg_sl, Value.category]) ?_
  intro p e s m args below meth c Q ls hx hb hml hts hown hP hK hl hend
  have hl : lv_has ls 2 [(0, .ref mh), (1, .int x)] := hl
  have hi_X6 : ∀ w ∈ u_ws RX6 TX6 10, w ∈ wsX6_isSign := by decide +kernel
  refine lv_iload_n hx hb dX6_isSign_0 rfl (lv_at hl 1 rfl) ?_
  refine lv_iconst (v := 0) hx hb dX6_isSign_1 (by decide) ?_
  refine lv_aload_n hx hb dX6_isSign_2 rfl (lv_at hl 0 rfl) ?_
  refine pg_get (C := RX6) (T := TX6) (N := 10) hx hb hts hi_X6 hown hK hP hL_mh hf_mh rfl 3 (by decide) (hts (.fieldLink RX6 45 "BarometerLeagueModel" "signs" "I") (by decide +kernel)) (fun _ h9 => h9) rfl dX6_isSign_3 ?_
  refine lv_iconst (v := 1) hx hb dX6_isSign_6 (by decide) ?_
  refine lv_isub hx hb dX6_isSign_7 ?_
  refine lv_topi (fun v7 ev7 => ?_)
  refine ro_S (As := [.int x, .int 0, .int v7]) (rest := []) ⟨hx, hb, hml, hown, hts⟩ (m_X6_isIn l g L f x 0 v7 ) (va_cwS 3 hts gX6_isSign_X6_isIn rfl rfl rfl (by decide +kernel) ⟨Nat.le_of_ble_eq_true rfl, Nat.le_of_ble_eq_true rfl⟩) hK hP rfl hl.1 rfl (Nat.le_of_ble_eq_true rfl) dX6_isSign_8 ⟨Nat.zero_le _, Nat.zero_le _⟩ (fun r8 hr8 => ?_)
  have hr8 : r8 = b2i (decide (0 ≤ x ∧ x ≤ v7)) := hr8
  subst hr8
  exact hend (b2i (decide (0 ≤ x ∧ x ≤ v7))) _ _ (congrArg b2i (decide_eq_decide.mpr (by rw [ev7]; exact inB_p (by omega)))) (b2i_n _) dX6_isSign_11

set_option maxHeartbeats 4000000 in
set_option maxRecDepth 100000 in
theorem m_X6_isVillage (l : Launch) (g : GG) (L : List Nat) (f : Nat → va_E) (mh mg mr mk mn ms nw ah n nv : Nat) (th : Int32) (x : Int32) (hL_mh : mh ∈ L) (hf_mh : f mh = eO 7 [.int th, .ref mg, .ref mr, .int (nI n), .ref mk, .ref mn, .int (nI nv), .ref ms, .ref nw, .ref ah]) (hn : n ≤ 8) (hnv : nv ≤ 6) : RO l g yX6_isVillage wsX6_isVillage 1 22 L f [.ref mh, .int x] (fun r => r = b2i (inB x nv)) := by
  refine RO.start (cc := cX6_isVillage) (maxL := 2) (ret := .boolean) (by decide +kernel) rfl (by simp [lg_sl, Value.category]) ?_
  intro p e s m args below meth c Q ls hx hb hml hts hown hP hK hl hend
  have hl : lv_has ls 2 [(0, .ref mh), (1, .int x)] := hl
  have hi_X6 : ∀ w ∈ u_ws RX6 TX6 10, w ∈ wsX6_isVillage := by decide +kernel
  refine lv_iload_n hx hb dX6_isVillage_0 rfl (lv_at hl 1 rfl) ?_
  refine lv_iconst (v := 0) hx hb dX6_isVillage_1 (by decide) ?_
  refine lv_aload_n hx hb dX6_isVillage_2 rfl (lv_at hl 0 rfl) ?_
  refine pg_get (C := RX6) (T := TX6) (N := 10) hx hb hts hi_X6 hown hK hP hL_mh hf_mh rfl 6 (by decide) (hts (.fieldLink RX6 52 "BarometerLeagueModel" "villages" "I") (by decide +kernel)) (fun _ h9 => h9) rfl dX6_isVillage_3 ?_
  refine lv_iconst (v := 1) hx hb dX6_isVillage_6 (by decide) ?_
  refine lv_isub hx hb dX6_isVillage_7 ?_
  refine lv_topi (fun v7 ev7 => ?_)
  refine ro_S (As := [.int x, .int 0, .int v7]) (rest := []) ⟨hx, hb, hml, hown, hts⟩ (m_X6_isIn l g L f x 0 v7 ) (va_cwS 3 hts gX6_isVillage_X6_isIn rfl rfl rfl (by decide +kernel) ⟨Nat.le_of_ble_eq_true rfl, Nat.le_of_ble_eq_true rfl⟩) hK hP rfl hl.1 rfl (Nat.le_of_ble_eq_true rfl) dX6_isVillage_8 ⟨Nat.zero_le _, Nat.zero_le _⟩ (fun r8 hr8 => ?_)
  have hr8 : r8 = b2i (decide (0 ≤ x ∧ x ≤ v7)) := hr8
  subst hr8
  exact hend (b2i (decide (0 ≤ x ∧ x ≤ v7))) _ _ (congrArg b2i (decide_eq_decide.mpr (by rw [ev7]; exact inB_p (by omega)))) (b2i_n _) dX6_isVillage_11

set_option maxHeartbeats 4000000 in
set_option maxRecDepth 100000 in
theorem m_X6_no (l : Launch) (g : GG) (L : List Nat) (f : Nat → va_E) (sz : Nat) (hN : L.Nodup) (mh mg mr mk mn ms nw ah n nv : Nat) (th : Int32) (x : Int32) (hL_mh : mh ∈ L) (hf_mh : f mh = eO 7 [.int th, .ref mg, .ref mr, .int (nI n), .ref mk, .ref mn, .int (nI nv), .ref ms, .ref nw, .ref ah]) : RW l g yX6_no wsX6_no 0 0 L f sz [.ref mh, .int x] (fun r f2 => r = 0 ∧ f2 mh = eO 7 [.int x, .ref mg, .ref mr, .int (nI n), .ref mk, .ref mn, .int (nI nv), .ref ms, .ref nw, .ref ah] ∧ Fr f f2 [mh]) := by
  refine RW.start (cc := cX6_no) (maxL := 2) (ret := .int) (by decide +kernel) rfl (by simp [lg_sl, Value.category]) ?_
  intro p e s m args below meth c Q ls A hx hb hml hts hown hA hA2 hS hP hK hl hend
  have hl : lv_has ls 2 [(0, .ref mh), (1, .int x)] := hl
  have hi_X6 : ∀ w ∈ u_ws RX6 TX6 10, w ∈ wsX6_no := by decide +kernel
  have hFr : Fr f f [mh] := Fr.rf
  have h0f_mh := hf_mh
  refine lv_aload_n hx hb dX6_no_0 rfl (lv_at hl 0 rfl) ?_
  refine lv_iload_n hx hb dX6_no_1 rfl (lv_at hl 1 rfl) ?_
  refine pg_put (ty := .int) (C := RX6) (T := TX6) (N := 10) hx hb hts hi_X6 tyX6 tyX6_ok nmX6 hown hK hP hN hA hS hL_mh hf_mh rfl 0 (by decide) (hts (.fieldLink RX6 41 "BarometerLeagueModel" "thrown" "I") (by decide +kernel)) (fun _ h9 => h9) rfl (by decide +kernel) rfl rfl (Nat.le_of_ble_eq_true rfl) dX6_no_2 (fun H locs hP hS => ?_)
  obtain ⟨f2, ef2⟩ : ∃ z, z = va_up f mh (eO 7 [.int x, .ref mg, .ref mr, .int (nI n), .ref mk, .ref mn, .int (nI nv), .ref ms, .ref nw, .ref ah]) := ⟨_, rfl⟩
  replace hP : PP g L f2 H := by rw [ef2]; exact hP
  have hf_mh : f2 mh = eO 7 [.int x, .ref mg, .ref mr, .int (nI n), .ref mk, .ref mn, .int (nI nv), .ref ms, .ref nw, .ref ah] := by rw [ef2]; exact va_up_self _ _ _
  replace hFr : Fr f f2 [mh] := by rw [ef2]; exact hFr.up (by simp)
  refine lv_iconst (v := 0) hx hb dX6_no_5 (by decide) ?_
  exact hend (0) f2 _ _ _ _ (⟨rfl, hf_mh, hFr⟩) hP hS rfl dX6_no_6

set_option maxHeartbeats 4000000 in
set_option maxRecDepth 100000 in
theorem m_X6_thrown (l : Launch) (g : GG) (L : List Nat) (f : Nat → va_E) (mh mg mr mk mn ms nw ah n nv : Nat) (th : Int32) (hL_mh : mh ∈ L) (hf_mh : f mh = eO 7 [.int th, .ref mg, .ref mr, .int (nI n), .ref mk, .ref mn, .int (nI nv), .ref ms, .ref nw, .ref ah]) : RO l g yX6_thrown wsX6_thrown 0 0 L f [.ref mh] (fun r => r = th) := by
  refine RO.start (cc := cX6_thrown) (maxL := 1) (ret := .int) (by decide +kernel) rfl (by simp [lg_sl, Value.category]) ?_
  intro p e s m args below meth c Q ls hx hb hml hts hown hP hK hl hend
  have hl : lv_has ls 1 [(0, .ref mh)] := hl
  have hi_X6 : ∀ w ∈ u_ws RX6 TX6 10, w ∈ wsX6_thrown := by decide +kernel
  refine lv_aload_n hx hb dX6_thrown_0 rfl (lv_at hl 0 rfl) ?_
  refine pg_get (C := RX6) (T := TX6) (N := 10) hx hb hts hi_X6 hown hK hP hL_mh hf_mh rfl 0 (by decide) (hts (.fieldLink RX6 41 "BarometerLeagueModel" "thrown" "I") (by decide +kernel)) (fun _ h9 => h9) rfl dX6_thrown_1 ?_
  exact hend (th) _ _ (rfl) rfl dX6_thrown_4

set_option maxHeartbeats 4000000 in
set_option maxRecDepth 100000 in
theorem m_X6_isRain (l : Launch) (g : GG) (L : List Nat) (f : Nat → va_E) (mh mg mr mk mn ms nw ah n nv : Nat) (th : Int32) (gl rn kd nu : Nat → Int32) (j d : Nat) (hL_mh : mh ∈ L) (hf_mh : f mh = eO 7 [.int th, .ref mg, .ref mr, .int (nI n), .ref mk, .ref mn, .int (nI nv), .ref ms, .ref nw, .ref ah]) (hL_mg : mg ∈ L) (hf_mg : f mg = eI g 12 gl) (hL_mr : mr ∈ L) (hf_mr : f mr = eI g 12 rn) (hL_mk : mk ∈ L) (hf_mk : f mk = eI g 8 kd) (hL_mn : mn ∈ L) (hf_mn : f mn = eI g 8 nu) (hj : j < 8) (hd : d < 2 ^ 30) : RO l g yX6_isRain wsX6_isRain 0 0 L f [.ref mh, .int (nI j), .int (nI d)] (fun r => r = b2i (sayB (kd j) (nu j) gl rn d)) := by
  refine RO.start (cc := cX6_isRain) (maxL := 5) (ret := .boolean) (by decide +kernel) rfl (by simp [lg_sl, Value.category]) ?_
  intro p e s m args below meth c Q ls hx hb hml hts hown hP hK hl hend
  have hl : lv_has ls 5 [(0, .ref mh), (1, .int (nI j)), (2, .int (nI d))] := hl
  have hi_X6 : ∀ w ∈ u_ws RX6 TX6 10, w ∈ wsX6_isRain := by decide +kernel
  have n_mh_mg : mh ≠ mg := ne_e hf_mh hf_mg (by simp)
  have n_mh_mr : mh ≠ mr := ne_e hf_mh hf_mr (by simp)
  have n_mh_mk : mh ≠ mk := ne_e hf_mh hf_mk (by simp)
  have n_mh_mn : mh ≠ mn := ne_e hf_mh hf_mn (by simp)
  have n_mg_mk : mg ≠ mk := ne_e hf_mg hf_mk (by simp)
  have n_mg_mn : mg ≠ mn := ne_e hf_mg hf_mn (by simp)
  have n_mr_mk : mr ≠ mk := ne_e hf_mr hf_mk (by simp)
  have n_mr_mn : mr ≠ mn := ne_e hf_mr hf_mn (by simp)
  refine lv_iload_n hx hb dX6_isRain_0 rfl (lv_at hl 2 rfl) ?_
  refine lv_bipush (v := 12) hx hb dX6_isRain_1 (by decide) ?_
  refine lv_irem hx hb dX6_isRain_3 (by decide) ?_
  refine lv_topi (fun v3 ev3 => ?_)
  have e3 : v3 = nI (d % 12) := by rw [ev3]; exact mIx hd
  refine lv_istore_n (lv' := [(3, .int v3), (0, .ref mh), (1, .int (nI j)), (2, .int (nI d))]) hx hb dX6_isRain_4 rfl hl (by decide) rfl (fun ls hl => ?_)
  refine lv_iload_n hx hb dX6_isRain_5 rfl (lv_at hl 0 rfl) ?_
  refine lv_bipush (v := 12) hx hb dX6_isRain_6 (by decide) ?_
  refine lv_iadd hx hb dX6_isRain_8 ?_
  refine lv_topi (fun v8 ev8 => ?_)
  refine lv_iconst (v := 1) hx hb dX6_isRain_9 (by decide) ?_
  refine lv_isub hx hb dX6_isRain_10 ?_
  refine lv_topi (fun v10 ev10 => ?_)
  refine lv_bipush (v := 12) hx hb dX6_isRain_11 (by decide) ?_
  refine lv_irem hx hb dX6_isRain_13 (by decide) ?_
  refine lv_topi (fun v13 ev13 => ?_)
  have e13 : v13 = nI ((d + 11) % 12) := by rw [ev13]; exact mBf e3 ev8 ev10
  refine lv_istore (lv' := [(4, .int v13), (3, .int v3), (0, .ref mh), (1, .int (nI j)), (2, .int (nI d))]) hx hb dX6_isRain_14 hl (by decide) rfl (fun ls hl => ?_)
  refine lv_aload_n hx hb dX6_isRain_16 rfl (lv_at hl 2 rfl) ?_
  refine pg_get (C := RX6) (T := TX6) (N := 10) hx hb hts hi_X6 hown hK hP hL_mh hf_mh rfl 4 (by decide) (hts (.fieldLink RX6 16 "BarometerLeagueModel" "kind" "[I") (by decide +kernel)) (fun _ h9 => h9) rfl dX6_isRain_17 ?_
  refine lv_iload_n hx hb dX6_isRain_20 rfl (lv_at hl 3 rfl) ?_
  refine pn_iald (j := j) hx hb hK hP hL_mk hf_mk rfl (by omega) (Nat.lt_of_lt_of_le (m := 100) (by omega) (by omega)) dX6_isRain_21 ?_
  by_cases k22_0 : kd j = 0
  · have q : (kd j).toInt = 0 := by rw [k22_0]; rfl
    refine lv_tableIn (off := 34) (tgt := 56) hx hb dX6_isRain_22 (by rw [q]; decide) (by rw [q]; decide) (by rw [q]; rfl) (by decide) ?_
    refine lv_aload_n hx hb dX6_isRain_56 rfl (lv_at hl 2 rfl) ?_
    refine pg_get (C := RX6) (T := TX6) (N := 10) hx hb hts hi_X6 hown hK hP hL_mh hf_mh rfl 1 (by decide) (hts (.fieldLink RX6 9 "BarometerLeagueModel" "glass" "[I") (by decide +kernel)) (fun _ h9 => h9) rfl dX6_isRain_57 ?_
    refine lv_iload hx hb dX6_isRain_60 (lv_at hl 0 rfl) ?_
    refine pn_iald (j := (d + 11) % 12) hx hb hK hP hL_mg hf_mg e13 (by omega) (Nat.lt_of_lt_of_le (m := 100) (by omega) (by omega)) dX6_isRain_62 ?_
    refine lv_aload_n hx hb dX6_isRain_63 rfl (lv_at hl 2 rfl) ?_
    refine pg_get (C := RX6) (T := TX6) (N := 10) hx hb hts hi_X6 hown hK hP hL_mh hf_mh rfl 1 (by decide) (hts (.fieldLink RX6 9 "BarometerLeagueModel" "glass" "[I") (by decide +kernel)) (fun _ h9 => h9) rfl dX6_isRain_64 ?_
    refine lv_iload_n hx hb dX6_isRain_67 rfl (lv_at hl 1 rfl) ?_
    refine pn_iald (j := d % 12) hx hb hK hP hL_mg hf_mg e3 (by omega) (Nat.lt_of_lt_of_le (m := 100) (by omega) (by omega)) dX6_isRain_68 ?_
    refine lv_isub hx hb dX6_isRain_69 ?_
    refine lv_topi (fun v69 ev69 => ?_)
    refine lv_aload_n hx hb dX6_isRain_70 rfl (lv_at hl 2 rfl) ?_
    refine pg_get (C := RX6) (T := TX6) (N := 10) hx hb hts hi_X6 hown hK hP hL_mh hf_mh rfl 5 (by decide) (hts (.fieldLink RX6 19 "BarometerLeagueModel" "number" "[I") (by decide +kernel)) (fun _ h9 => h9) rfl dX6_isRain_71 ?_
    refine lv_iload_n hx hb dX6_isRain_74 rfl (lv_at hl 3 rfl) ?_
    refine pn_iald (j := j) hx hb hK hP hL_mn hf_mn rfl (by omega) (Nat.lt_of_lt_of_le (m := 100) (by omega) (by omega)) dX6_isRain_75 ?_
    refine lv_icmp_lt (tgt := 83) hx hb dX6_isRain_76 (by decide) (fun c76 => ?_) (fun c76 => ?_)
    · skip
      refine lv_iconst (v := 0) hx hb dX6_isRain_83 (by decide) ?_
      exact hend (0) _ _ (bf (say0 k22_0) (by rw [← ev69]; exact Int32.not_le.mpr c76)) rfl dX6_isRain_84
    · skip
      refine lv_iconst (v := 1) hx hb dX6_isRain_79 (by decide) ?_
      refine lv_goto (tgt := 84) hx hb dX6_isRain_80 (by decide) ?_
      exact hend (1) _ _ (bt (say0 k22_0) (by rw [← ev69]; exact Int32.not_lt.mp c76)) rfl dX6_isRain_84
  have q22_0 : (kd j).toInt ≠ 0 := ti_ne k22_0
  by_cases k22_1 : kd j = 1
  · have q : (kd j).toInt = 1 := by rw [k22_1]; rfl
    refine lv_tableIn (off := 63) (tgt := 85) hx hb dX6_isRain_22 (by rw [q]; decide) (by rw [q]; decide) (by rw [q]; rfl) (by decide) ?_
    refine lv_aload_n hx hb dX6_isRain_85 rfl (lv_at hl 2 rfl) ?_
    refine pg_get (C := RX6) (T := TX6) (N := 10) hx hb hts hi_X6 hown hK hP hL_mh hf_mh rfl 1 (by decide) (hts (.fieldLink RX6 9 "BarometerLeagueModel" "glass" "[I") (by decide +kernel)) (fun _ h9 => h9) rfl dX6_isRain_86 ?_
    refine lv_iload_n hx hb dX6_isRain_89 rfl (lv_at hl 1 rfl) ?_
    refine pn_iald (j := d % 12) hx hb hK hP hL_mg hf_mg e3 (by omega) (Nat.lt_of_lt_of_le (m := 100) (by omega) (by omega)) dX6_isRain_90 ?_
    refine lv_aload_n hx hb dX6_isRain_91 rfl (lv_at hl 2 rfl) ?_
    refine pg_get (C := RX6) (T := TX6) (N := 10) hx hb hts hi_X6 hown hK hP hL_mh hf_mh rfl 5 (by decide) (hts (.fieldLink RX6 19 "BarometerLeagueModel" "number" "[I") (by decide +kernel)) (fun _ h9 => h9) rfl dX6_isRain_92 ?_
    refine lv_iload_n hx hb dX6_isRain_95 rfl (lv_at hl 3 rfl) ?_
    refine pn_iald (j := j) hx hb hK hP hL_mn hf_mn rfl (by omega) (Nat.lt_of_lt_of_le (m := 100) (by omega) (by omega)) dX6_isRain_96 ?_
    refine lv_icmp_ge (tgt := 104) hx hb dX6_isRain_97 (by decide) (fun c97 => ?_) (fun c97 => ?_)
    · skip
      refine lv_iconst (v := 0) hx hb dX6_isRain_104 (by decide) ?_
      exact hend (0) _ _ (bf (say1 k22_1) (Int32.not_lt.mpr c97)) rfl dX6_isRain_105
    · skip
      refine lv_iconst (v := 1) hx hb dX6_isRain_100 (by decide) ?_
      refine lv_goto (tgt := 105) hx hb dX6_isRain_101 (by decide) ?_
      exact hend (1) _ _ (bt (say1 k22_1) (Int32.not_le.mp c97)) rfl dX6_isRain_105
  have q22_1 : (kd j).toInt ≠ 1 := ti_ne k22_1
  by_cases k22_2 : kd j = 2
  · have q : (kd j).toInt = 2 := by rw [k22_2]; rfl
    refine lv_tableIn (off := 84) (tgt := 106) hx hb dX6_isRain_22 (by rw [q]; decide) (by rw [q]; decide) (by rw [q]; rfl) (by decide) ?_
    refine lv_aload_n hx hb dX6_isRain_106 rfl (lv_at hl 2 rfl) ?_
    refine pg_get (C := RX6) (T := TX6) (N := 10) hx hb hts hi_X6 hown hK hP hL_mh hf_mh rfl 2 (by decide) (hts (.fieldLink RX6 13 "BarometerLeagueModel" "rains" "[I") (by decide +kernel)) (fun _ h9 => h9) rfl dX6_isRain_107 ?_
    refine lv_iload hx hb dX6_isRain_110 (lv_at hl 0 rfl) ?_
    refine pn_iald (j := (d + 11) % 12) hx hb hK hP hL_mr hf_mr e13 (by omega) (Nat.lt_of_lt_of_le (m := 100) (by omega) (by omega)) dX6_isRain_112 ?_
    refine lv_iconst (v := 1) hx hb dX6_isRain_113 (by decide) ?_
    refine lv_icmp_ne (tgt := 121) hx hb dX6_isRain_114 (by decide) (fun c114 => ?_) (fun c114 => ?_)
    · skip
      refine lv_iconst (v := 0) hx hb dX6_isRain_121 (by decide) ?_
      exact hend (0) _ _ (bf (say2 k22_2) c114) rfl dX6_isRain_122
    · skip
      refine lv_iconst (v := 1) hx hb dX6_isRain_117 (by decide) ?_
      refine lv_goto (tgt := 122) hx hb dX6_isRain_118 (by decide) ?_
      exact hend (1) _ _ (bt (say2 k22_2) c114) rfl dX6_isRain_122
  have q22_2 : (kd j).toInt ≠ 2 := ti_ne k22_2
  by_cases k22_3 : kd j = 3
  · have q : (kd j).toInt = 3 := by rw [k22_3]; rfl
    refine lv_tableIn (off := 101) (tgt := 123) hx hb dX6_isRain_22 (by rw [q]; decide) (by rw [q]; decide) (by rw [q]; rfl) (by decide) ?_
    refine lv_iload_n hx hb dX6_isRain_123 rfl (lv_at hl 4 rfl) ?_
    refine lv_bipush (v := 7) hx hb dX6_isRain_124 (by decide) ?_
    refine lv_irem hx hb dX6_isRain_126 (by decide) ?_
    refine lv_topi (fun v126 ev126 => ?_)
    refine lv_aload_n hx hb dX6_isRain_127 rfl (lv_at hl 2 rfl) ?_
    refine pg_get (C := RX6) (T := TX6) (N := 10) hx hb hts hi_X6 hown hK hP hL_mh hf_mh rfl 5 (by decide) (hts (.fieldLink RX6 19 "BarometerLeagueModel" "number" "[I") (by decide +kernel)) (fun _ h9 => h9) rfl dX6_isRain_128 ?_
    refine lv_iload_n hx hb dX6_isRain_131 rfl (lv_at hl 3 rfl) ?_
    refine pn_iald (j := j) hx hb hK hP hL_mn hf_mn rfl (by omega) (Nat.lt_of_lt_of_le (m := 100) (by omega) (by omega)) dX6_isRain_132 ?_
    refine lv_bipush (v := 7) hx hb dX6_isRain_133 (by decide) ?_
    refine lv_irem hx hb dX6_isRain_135 (by decide) ?_
    refine lv_topi (fun v135 ev135 => ?_)
    refine lv_icmp_ne (tgt := 143) hx hb dX6_isRain_136 (by decide) (fun c136 => ?_) (fun c136 => ?_)
    · skip
      refine lv_iconst (v := 0) hx hb dX6_isRain_143 (by decide) ?_
      exact hend (0) _ _ (bf (say3 k22_3) (fun h => c136 (by rw [ev126, ev135]; exact h))) rfl dX6_isRain_144
    · skip
      refine lv_iconst (v := 1) hx hb dX6_isRain_139 (by decide) ?_
      refine lv_goto (tgt := 144) hx hb dX6_isRain_140 (by decide) ?_
      exact hend (1) _ _ (bt (say3 k22_3) (by rw [← ev126, ← ev135]; exact c136)) rfl dX6_isRain_144
  have q22_3 : (kd j).toInt ≠ 3 := ti_ne k22_3
  by_cases k22_4 : kd j = 4
  · have q : (kd j).toInt = 4 := by rw [k22_4]; rfl
    refine lv_tableIn (off := 123) (tgt := 145) hx hb dX6_isRain_22 (by rw [q]; decide) (by rw [q]; decide) (by rw [q]; rfl) (by decide) ?_
    refine lv_aload_n hx hb dX6_isRain_145 rfl (lv_at hl 2 rfl) ?_
    refine pg_get (C := RX6) (T := TX6) (N := 10) hx hb hts hi_X6 hown hK hP hL_mh hf_mh rfl 2 (by decide) (hts (.fieldLink RX6 13 "BarometerLeagueModel" "rains" "[I") (by decide +kernel)) (fun _ h9 => h9) rfl dX6_isRain_146 ?_
    refine lv_iload hx hb dX6_isRain_149 (lv_at hl 0 rfl) ?_
    refine pn_iald (j := (d + 11) % 12) hx hb hK hP hL_mr hf_mr e13 (by omega) (Nat.lt_of_lt_of_le (m := 100) (by omega) (by omega)) dX6_isRain_151 ?_
    refine lv_if_ne (tgt := 175) hx hb dX6_isRain_152 (by decide) (fun c152 => ?_) (fun c152 => ?_)
    · skip
      refine lv_iconst (v := 0) hx hb dX6_isRain_175 (by decide) ?_
      exact hend (0) _ _ (bf (say4 k22_4) (fun h => c152 h.1)) rfl dX6_isRain_176
    · skip
      refine lv_aload_n hx hb dX6_isRain_155 rfl (lv_at hl 2 rfl) ?_
      refine pg_get (C := RX6) (T := TX6) (N := 10) hx hb hts hi_X6 hown hK hP hL_mh hf_mh rfl 1 (by decide) (hts (.fieldLink RX6 9 "BarometerLeagueModel" "glass" "[I") (by decide +kernel)) (fun _ h9 => h9) rfl dX6_isRain_156 ?_
      refine lv_iload_n hx hb dX6_isRain_159 rfl (lv_at hl 1 rfl) ?_
      refine pn_iald (j := d % 12) hx hb hK hP hL_mg hf_mg e3 (by omega) (Nat.lt_of_lt_of_le (m := 100) (by omega) (by omega)) dX6_isRain_160 ?_
      refine lv_aload_n hx hb dX6_isRain_161 rfl (lv_at hl 2 rfl) ?_
      refine pg_get (C := RX6) (T := TX6) (N := 10) hx hb hts hi_X6 hown hK hP hL_mh hf_mh rfl 1 (by decide) (hts (.fieldLink RX6 9 "BarometerLeagueModel" "glass" "[I") (by decide +kernel)) (fun _ h9 => h9) rfl dX6_isRain_162 ?_
      refine lv_iload hx hb dX6_isRain_165 (lv_at hl 0 rfl) ?_
      refine pn_iald (j := (d + 11) % 12) hx hb hK hP hL_mg hf_mg e13 (by omega) (Nat.lt_of_lt_of_le (m := 100) (by omega) (by omega)) dX6_isRain_167 ?_
      refine lv_icmp_ge (tgt := 175) hx hb dX6_isRain_168 (by decide) (fun c168 => ?_) (fun c168 => ?_)
      · skip
        refine lv_iconst (v := 0) hx hb dX6_isRain_175 (by decide) ?_
        exact hend (0) _ _ (bf (say4 k22_4) (fun h => Int32.not_lt.mpr c168 h.2)) rfl dX6_isRain_176
      · skip
        refine lv_iconst (v := 1) hx hb dX6_isRain_171 (by decide) ?_
        refine lv_goto (tgt := 176) hx hb dX6_isRain_172 (by decide) ?_
        exact hend (1) _ _ (bt (say4 k22_4) ⟨c152, Int32.not_le.mp c168⟩) rfl dX6_isRain_176
  have q22_4 : (kd j).toInt ≠ 4 := ti_ne k22_4
  refine lv_tableOut (tgt := 177) hx hb dX6_isRain_22 (by omega) (by decide) ?_
  refine lv_iconst (v := 1) hx hb dX6_isRain_177 (by decide) ?_
  exact hend (1) _ _ (by rw [say5 k22_0 k22_1 k22_2 k22_3 k22_4]; rfl) rfl dX6_isRain_178

set_option maxHeartbeats 4000000 in
set_option maxRecDepth 100000 in
theorem m_X6_look (l : Launch) (g : GG) (L : List Nat) (f : Nat → va_E) (sz : Nat) (hN : L.Nodup) (mh mg mr mk mn ms nw ah n nv : Nat) (th : Int32) (gl rn kd nu : Nat → Int32) (sd : Nat → Int32) (d : Nat) (hL_mh : mh ∈ L) (hf_mh : f mh = eO 7 [.int th, .ref mg, .ref mr, .int (nI n), .ref mk, .ref mn, .int (nI nv), .ref ms, .ref nw, .ref ah]) (hL_mg : mg ∈ L) (hf_mg : f mg = eI g 12 gl) (hL_mr : mr ∈ L) (hf_mr : f mr = eI g 12 rn) (hL_mk : mk ∈ L) (hf_mk : f mk = eI g 8 kd) (hL_mn : mn ∈ L) (hf_mn : f mn = eI g 8 nu) (hL_ms : ms ∈ L) (hf_ms : f ms = eI g 8 sd) (n_mk_ms : mk ≠ ms) (n_mn_ms : mn ≠ ms) (hn : n ≤ 8) (hd : d < 2 ^ 30) : RV l g yX6_look wsX6_look 1 24 L f sz [.ref mh, .int (nI d)] (fun f2 => f2 ms = eI g 8 (mapN (fun j _ => b2i (sayB (kd j) (nu j) gl rn d)) sd n) ∧ Fr f f2 [ms]) := by
  refine RV.start (cc := cX6_look) (maxL := 3) (by decide +kernel) rfl (by simp [lg_sl, Value.category]) ?_
  intro p e s m args below meth c Q ls A hx hb hml hts hown hA hA2 hS hP hK hl hend
  have hl : lv_has ls 3 [(0, .ref mh), (1, .int (nI d))] := hl
  have hi_X6 : ∀ w ∈ u_ws RX6 TX6 10, w ∈ wsX6_look := by decide +kernel
  have hFr : Fr f f [ms] := Fr.rf
  have n_mh_mg : mh ≠ mg := ne_e hf_mh hf_mg (by simp)
  have n_mh_mr : mh ≠ mr := ne_e hf_mh hf_mr (by simp)
  have n_mh_mk : mh ≠ mk := ne_e hf_mh hf_mk (by simp)
  have n_mh_mn : mh ≠ mn := ne_e hf_mh hf_mn (by simp)
  have n_mh_ms : mh ≠ ms := ne_e hf_mh hf_ms (by simp)
  have n_mg_mk : mg ≠ mk := ne_e hf_mg hf_mk (by simp)
  have n_mg_mn : mg ≠ mn := ne_e hf_mg hf_mn (by simp)
  have n_mg_ms : mg ≠ ms := ne_e hf_mg hf_ms (by simp)
  have n_mr_mk : mr ≠ mk := ne_e hf_mr hf_mk (by simp)
  have n_mr_mn : mr ≠ mn := ne_e hf_mr hf_mn (by simp)
  have n_mr_ms : mr ≠ ms := ne_e hf_mr hf_ms (by simp)
  have h0f_mh := hf_mh
  have h0f_mg := hf_mg
  have h0f_mr := hf_mr
  have h0f_mk := hf_mk
  have h0f_mn := hf_mn
  have h0f_ms := hf_ms
  refine lv_iconst (v := 0) hx hb dX6_look_0 (by decide) ?_
  refine lv_istore_n (lv' := [(2, .int 0), (0, .ref mh), (1, .int (nI d))]) hx hb dX6_look_1 rfl hl (by decide) rfl (fun ls hl => ?_)
  have hf_ms : f ms = eI g 8 (mapN (fun j _ => b2i (sayB (kd j) (nu j) gl rn d)) sd 0) := by rw [hf_ms, mapN_0]
  have K2 : ∀ (n2 : Nat) (i : Nat) (f2 : Nat → va_E) (H : Heap) (locs : List Loc), n - i < n2 → i ≤ n → f2 ms = eI g 8 (mapN (fun j _ => b2i (sayB (kd j) (nu j) gl rn d)) sd i) → Fr f f2 [ms] → PP g L f2 H → va_S A s.heap H locs → ∀ (ls : Array Slot), lv_has ls 3 [(2, .int (nI i)), (1, .int (nI d)), (0, .ref mh)] → W p l e ({ frames := 1, cells := 0, slots := 0, locals := 24 } : Room) s m args below meth c H locs 0 0 Q (F0 m 2 ls []) := by
    intro n2
    induction n2 with
    | zero => intros; omega
    | succ n2 ih2 =>
      intro i f2 H locs hm2 hi hq2_0 hFr hP hS ls hl
      have hf_mh : f2 mh = eO 7 [.int th, .ref mg, .ref mr, .int (nI n), .ref mk, .ref mn, .int (nI nv), .ref ms, .ref nw, .ref ah] := hFr.get h0f_mh (nm_c n_mh_ms (List.not_mem_nil))
      have hf_mg : f2 mg = eI g 12 gl := hFr.get h0f_mg (nm_c n_mg_ms (List.not_mem_nil))
      have hf_mr : f2 mr = eI g 12 rn := hFr.get h0f_mr (nm_c n_mr_ms (List.not_mem_nil))
      have hf_mk : f2 mk = eI g 8 kd := hFr.get h0f_mk (nm_c n_mk_ms (List.not_mem_nil))
      have hf_mn : f2 mn = eI g 8 nu := hFr.get h0f_mn (nm_c n_mn_ms (List.not_mem_nil))
      have hf_ms : f2 ms = eI g 8 (mapN (fun j _ => b2i (sayB (kd j) (nu j) gl rn d)) sd i) := hq2_0
      refine lv_iload_n hx hb dX6_look_2 rfl (lv_at hl 0 rfl) ?_
      refine lv_aload_n hx hb dX6_look_3 rfl (lv_at hl 2 rfl) ?_
      refine pg_get (C := RX6) (T := TX6) (N := 10) hx hb hts hi_X6 hown hK hP hL_mh hf_mh rfl 3 (by decide) (hts (.fieldLink RX6 45 "BarometerLeagueModel" "signs" "I") (by decide +kernel)) (fun _ h9 => h9) rfl dX6_look_4 ?_
      refine lv_icmp_ge (tgt := 36) hx hb dX6_look_7 (by decide) (fun c7 => ?_) (fun c7 => ?_)
      · skip
        have c7 : n ≤ i := (nI_leI (a := n) (b := i) (by omega) (by omega)).mp (show nI n ≤ nI i from c7)
        exact hend f2 _ _ _ _ (⟨by rw [hf_ms, show i = n from (by omega)], hFr⟩) hP hS dX6_look_36
      · skip
        have c7 : ¬ n ≤ i := fun h => c7 ((nI_leI (a := n) (b := i) (by omega) (by omega)).mpr h)
        refine lv_aload_n hx hb dX6_look_10 rfl (lv_at hl 2 rfl) ?_
        refine pg_get (C := RX6) (T := TX6) (N := 10) hx hb hts hi_X6 hown hK hP hL_mh hf_mh rfl 7 (by decide) (hts (.fieldLink RX6 22 "BarometerLeagueModel" "said" "[I") (by decide +kernel)) (fun _ h9 => h9) rfl dX6_look_11 ?_
        refine lv_iload_n hx hb dX6_look_14 rfl (lv_at hl 0 rfl) ?_
        refine lv_aload_n hx hb dX6_look_15 rfl (lv_at hl 2 rfl) ?_
        refine lv_iload_n hx hb dX6_look_16 rfl (lv_at hl 0 rfl) ?_
        refine lv_iload_n hx hb dX6_look_17 rfl (lv_at hl 1 rfl) ?_
        refine ro_V (As := [.int (nI i), .int (nI d)]) (rest := [.int (nI i), .ref ms]) ⟨hx, hb, hml, hown, hts⟩ (m_X6_isRain l g L f2 _ _ _ _ _ _ _ _ _ _ _ _ _ _ _ i d hL_mh hf_mh hL_mg hf_mg hL_mr hf_mr hL_mk hf_mk hL_mn hf_mn (by omega) hd) (cwV 2 hts gX6_look_X6_isRain rfl rfl rfl (by decide +kernel) ⟨Nat.le_of_ble_eq_true rfl, Nat.le_of_ble_eq_true rfl⟩) hK hP hL_mh hf_mh rfl rfl hl.1 rfl (Nat.le_of_ble_eq_true rfl) dX6_look_18 ⟨Nat.zero_le _, Nat.zero_le _⟩ (fun r18 hr18 => ?_)
        have hr18 : r18 = b2i (sayB (kd i) (nu i) gl rn d) := hr18
        subst hr18
        refine lv_if_eq (tgt := 28) hx hb dX6_look_21 (by decide) (fun c21 => ?_) (fun c21 => ?_)
        · skip
          refine lv_iconst (v := 0) hx hb dX6_look_28 (by decide) ?_
          refine pn_iast (j := i) hx hb hK hP hN hA hS hL_ms hf_ms rfl (by omega) (Nat.lt_of_lt_of_le (m := 100) (by omega) (by omega)) dX6_look_29 (fun H locs hP hS => ?_)
          obtain ⟨f29, ef29⟩ : ∃ z, z = va_up f2 ms (eI g 8 (upd (mapN (fun j _ => b2i (sayB (kd j) (nu j) gl rn d)) sd i) i 0)) := ⟨_, rfl⟩
          replace hP : PP g L f29 H := by rw [ef29]; exact hP
          have hf_mh : f29 mh = eO 7 [.int th, .ref mg, .ref mr, .int (nI n), .ref mk, .ref mn, .int (nI nv), .ref ms, .ref nw, .ref ah] := by rw [ef29, va_up_ne _ _ n_mh_ms]; exact hf_mh
          have hf_mg : f29 mg = eI g 12 gl := by rw [ef29, va_up_ne _ _ n_mg_ms]; exact hf_mg
          have hf_mr : f29 mr = eI g 12 rn := by rw [ef29, va_up_ne _ _ n_mr_ms]; exact hf_mr
          have hf_mk : f29 mk = eI g 8 kd := by rw [ef29, va_up_ne _ _ n_mk_ms]; exact hf_mk
          have hf_mn : f29 mn = eI g 8 nu := by rw [ef29, va_up_ne _ _ n_mn_ms]; exact hf_mn
          have hf_ms : f29 ms = eI g 8 (upd (mapN (fun j _ => b2i (sayB (kd j) (nu j) gl rn d)) sd i) i 0) := by rw [ef29]; exact va_up_self _ _ _
          replace hFr : Fr f f29 [ms] := by rw [ef29]; exact hFr.up (by simp)
          refine lv_iinc (v := nI (i + 1)) (lv' := [(2, .int (nI (i + 1))), (1, .int (nI d)), (0, .ref mh)]) hx hb dX6_look_30 hl (k := 0) rfl (nI_1 _) (by decide) rfl (fun ls hl => ?_)
          refine lv_goto (tgt := 2) hx hb dX6_look_33 (by decide) ?_
          have hf_ms : f29 ms = eI g 8 (mapN (fun j _ => b2i (sayB (kd j) (nu j) gl rn d)) sd (i + 1)) := by rw [hf_ms, mapN_s (F := (fun j _ => b2i (sayB (kd j) (nu j) gl rn d))) (c21.symm)]
          exact ih2 (i + 1) f29 H locs (by omega) (by omega) hf_ms hFr hP hS ls (lv_sub hl [0, 1, 2] rfl)
        · skip
          refine lv_iconst (v := 1) hx hb dX6_look_24 (by decide) ?_
          refine lv_goto (tgt := 29) hx hb dX6_look_25 (by decide) ?_
          refine pn_iast (j := i) hx hb hK hP hN hA hS hL_ms hf_ms rfl (by omega) (Nat.lt_of_lt_of_le (m := 100) (by omega) (by omega)) dX6_look_29 (fun H locs hP hS => ?_)
          obtain ⟨f29, ef29⟩ : ∃ z, z = va_up f2 ms (eI g 8 (upd (mapN (fun j _ => b2i (sayB (kd j) (nu j) gl rn d)) sd i) i 1)) := ⟨_, rfl⟩
          replace hP : PP g L f29 H := by rw [ef29]; exact hP
          have hf_mh : f29 mh = eO 7 [.int th, .ref mg, .ref mr, .int (nI n), .ref mk, .ref mn, .int (nI nv), .ref ms, .ref nw, .ref ah] := by rw [ef29, va_up_ne _ _ n_mh_ms]; exact hf_mh
          have hf_mg : f29 mg = eI g 12 gl := by rw [ef29, va_up_ne _ _ n_mg_ms]; exact hf_mg
          have hf_mr : f29 mr = eI g 12 rn := by rw [ef29, va_up_ne _ _ n_mr_ms]; exact hf_mr
          have hf_mk : f29 mk = eI g 8 kd := by rw [ef29, va_up_ne _ _ n_mk_ms]; exact hf_mk
          have hf_mn : f29 mn = eI g 8 nu := by rw [ef29, va_up_ne _ _ n_mn_ms]; exact hf_mn
          have hf_ms : f29 ms = eI g 8 (upd (mapN (fun j _ => b2i (sayB (kd j) (nu j) gl rn d)) sd i) i 1) := by rw [ef29]; exact va_up_self _ _ _
          replace hFr : Fr f f29 [ms] := by rw [ef29]; exact hFr.up (by simp)
          refine lv_iinc (v := nI (i + 1)) (lv' := [(2, .int (nI (i + 1))), (1, .int (nI d)), (0, .ref mh)]) hx hb dX6_look_30 hl (k := 0) rfl (nI_1 _) (by decide) rfl (fun ls hl => ?_)
          refine lv_goto (tgt := 2) hx hb dX6_look_33 (by decide) ?_
          have hf_ms : f29 ms = eI g 8 (mapN (fun j _ => b2i (sayB (kd j) (nu j) gl rn d)) sd (i + 1)) := by rw [hf_ms, mapN_s (F := (fun j _ => b2i (sayB (kd j) (nu j) gl rn d))) ((bool1 ⟨_, rfl⟩ c21).symm)]
          exact ih2 (i + 1) f29 H locs (by omega) (by omega) hf_ms hFr hP hS ls (lv_sub hl [0, 1, 2] rfl)
  exact K2 _ 0 f _ _ (Nat.lt_succ_self _) (Nat.zero_le _) hf_ms hFr hP hS ls (lv_sub hl [0, 2, 1] rfl)

set_option maxHeartbeats 4000000 in
set_option maxRecDepth 100000 in
theorem m_X6_isRight (l : Launch) (g : GG) (L : List Nat) (f : Nat → va_E) (mh mg mr mk mn ms nw ah n nv : Nat) (th : Int32) (gl rn kd nu : Nat → Int32) (j d : Nat) (hL_mh : mh ∈ L) (hf_mh : f mh = eO 7 [.int th, .ref mg, .ref mr, .int (nI n), .ref mk, .ref mn, .int (nI nv), .ref ms, .ref nw, .ref ah]) (hL_mg : mg ∈ L) (hf_mg : f mg = eI g 12 gl) (hL_mr : mr ∈ L) (hf_mr : f mr = eI g 12 rn) (hL_mk : mk ∈ L) (hf_mk : f mk = eI g 8 kd) (hL_mn : mn ∈ L) (hf_mn : f mn = eI g 8 nu) (hj : j < 8) (hd : d < 2 ^ 30) : RO l g yX6_isRight wsX6_isRight 1 24 L f [.ref mh, .int (nI j), .int (nI d)] (fun r => r = b2i (sayB (kd j) (nu j) gl rn d == decide (rn (d % 12) = 1))) := by
  refine RO.start (cc := cX6_isRight) (maxL := 3) (ret := .boolean) (by decide +kernel) rfl (by simp [lg_sl, Value.category]) ?_
  intro p e s m args below meth c Q ls hx hb hml hts hown hP hK hl hend
  have hl : lv_has ls 3 [(0, .ref mh), (1, .int (nI j)), (2, .int (nI d))] := hl
  have hi_X6 : ∀ w ∈ u_ws RX6 TX6 10, w ∈ wsX6_isRight := by decide +kernel
  have n_mh_mg : mh ≠ mg := ne_e hf_mh hf_mg (by simp)
  have n_mh_mr : mh ≠ mr := ne_e hf_mh hf_mr (by simp)
  have n_mh_mk : mh ≠ mk := ne_e hf_mh hf_mk (by simp)
  have n_mh_mn : mh ≠ mn := ne_e hf_mh hf_mn (by simp)
  have n_mg_mk : mg ≠ mk := ne_e hf_mg hf_mk (by simp)
  have n_mg_mn : mg ≠ mn := ne_e hf_mg hf_mn (by simp)
  have n_mr_mk : mr ≠ mk := ne_e hf_mr hf_mk (by simp)
  have n_mr_mn : mr ≠ mn := ne_e hf_mr hf_mn (by simp)
  refine lv_aload_n hx hb dX6_isRight_0 rfl (lv_at hl 0 rfl) ?_
  refine lv_iload_n hx hb dX6_isRight_1 rfl (lv_at hl 1 rfl) ?_
  refine lv_iload_n hx hb dX6_isRight_2 rfl (lv_at hl 2 rfl) ?_
  refine ro_V (As := [.int (nI j), .int (nI d)]) (rest := []) ⟨hx, hb, hml, hown, hts⟩ (m_X6_isRain l g L f _ _ _ _ _ _ _ _ _ _ _ _ _ _ _ j d hL_mh hf_mh hL_mg hf_mg hL_mr hf_mr hL_mk hf_mk hL_mn hf_mn hj hd) (cwV 2 hts gX6_isRight_X6_isRain rfl rfl rfl (by decide +kernel) ⟨Nat.le_of_ble_eq_true rfl, Nat.le_of_ble_eq_true rfl⟩) hK hP hL_mh hf_mh rfl rfl hl.1 rfl (Nat.le_of_ble_eq_true rfl) dX6_isRight_3 ⟨Nat.zero_le _, Nat.zero_le _⟩ (fun r3 hr3 => ?_)
  have hr3 : r3 = b2i (sayB (kd j) (nu j) gl rn d) := hr3
  subst hr3
  refine lv_aload_n hx hb dX6_isRight_6 rfl (lv_at hl 0 rfl) ?_
  refine pg_get (C := RX6) (T := TX6) (N := 10) hx hb hts hi_X6 hown hK hP hL_mh hf_mh rfl 2 (by decide) (hts (.fieldLink RX6 13 "BarometerLeagueModel" "rains" "[I") (by decide +kernel)) (fun _ h9 => h9) rfl dX6_isRight_7 ?_
  refine lv_iload_n hx hb dX6_isRight_10 rfl (lv_at hl 2 rfl) ?_
  refine lv_bipush (v := 12) hx hb dX6_isRight_11 (by decide) ?_
  refine lv_irem hx hb dX6_isRight_13 (by decide) ?_
  refine lv_topi (fun v13 ev13 => ?_)
  have e13 : v13 = nI (d % 12) := by rw [ev13]; exact mIx hd
  refine pn_iald (j := d % 12) hx hb hK hP hL_mr hf_mr e13 (by omega) (Nat.lt_of_lt_of_le (m := 100) (by omega) (by omega)) dX6_isRight_14 ?_
  refine lv_iconst (v := 1) hx hb dX6_isRight_15 (by decide) ?_
  refine lv_icmp_ne (tgt := 23) hx hb dX6_isRight_16 (by decide) (fun c16 => ?_) (fun c16 => ?_)
  · skip
    refine lv_iconst (v := 0) hx hb dX6_isRight_23 (by decide) ?_
    refine lv_icmp_ne (tgt := 31) hx hb dX6_isRight_24 (by decide) (fun c24 => ?_) (fun c24 => ?_)
    · skip
      refine lv_iconst (v := 0) hx hb dX6_isRight_31 (by decide) ?_
      exact hend (0) _ _ (rgt4 c16 c24) rfl dX6_isRight_32
    · skip
      refine lv_iconst (v := 1) hx hb dX6_isRight_27 (by decide) ?_
      refine lv_goto (tgt := 32) hx hb dX6_isRight_28 (by decide) ?_
      exact hend (1) _ _ (rgt3 c16 c24) rfl dX6_isRight_32
  · skip
    refine lv_iconst (v := 1) hx hb dX6_isRight_19 (by decide) ?_
    refine lv_goto (tgt := 24) hx hb dX6_isRight_20 (by decide) ?_
    refine lv_icmp_ne (tgt := 31) hx hb dX6_isRight_24 (by decide) (fun c24 => ?_) (fun c24 => ?_)
    · skip
      refine lv_iconst (v := 0) hx hb dX6_isRight_31 (by decide) ?_
      exact hend (0) _ _ (rgt2 c16 c24) rfl dX6_isRight_32
    · skip
      refine lv_iconst (v := 1) hx hb dX6_isRight_27 (by decide) ?_
      refine lv_goto (tgt := 32) hx hb dX6_isRight_28 (by decide) ?_
      exact hend (1) _ _ (rgt1 c16 c24) rfl dX6_isRight_32

set_option maxHeartbeats 4000000 in
set_option maxRecDepth 100000 in
theorem m_X6_rightDays (l : Launch) (g : GG) (L : List Nat) (f : Nat → va_E) (mh mg mr mk mn ms nw ah n nv : Nat) (th : Int32) (gl rn kd nu : Nat → Int32) (j : Nat) (hL_mh : mh ∈ L) (hf_mh : f mh = eO 7 [.int th, .ref mg, .ref mr, .int (nI n), .ref mk, .ref mn, .int (nI nv), .ref ms, .ref nw, .ref ah]) (hL_mg : mg ∈ L) (hf_mg : f mg = eI g 12 gl) (hL_mr : mr ∈ L) (hf_mr : f mr = eI g 12 rn) (hL_mk : mk ∈ L) (hf_mk : f mk = eI g 8 kd) (hL_mn : mn ∈ L) (hf_mn : f mn = eI g 8 nu) (hj : j < 8) : RO l g yX6_rightDays wsX6_rightDays 2 46 L f [.ref mh, .int (nI j)] (fun r => r = rightN (kd j) (nu j) gl rn 12) := by
  refine RO.start (cc := cX6_rightDays) (maxL := 4) (ret := .int) (by decide +kernel) rfl (by simp [lg_sl, Value.category]) ?_
  intro p e s m args below meth c Q ls hx hb hml hts hown hP hK hl hend
  have hl : lv_has ls 4 [(0, .ref mh), (1, .int (nI j))] := hl
  have n_mh_mg : mh ≠ mg := ne_e hf_mh hf_mg (by simp)
  have n_mh_mr : mh ≠ mr := ne_e hf_mh hf_mr (by simp)
  have n_mh_mk : mh ≠ mk := ne_e hf_mh hf_mk (by simp)
  have n_mh_mn : mh ≠ mn := ne_e hf_mh hf_mn (by simp)
  have n_mg_mk : mg ≠ mk := ne_e hf_mg hf_mk (by simp)
  have n_mg_mn : mg ≠ mn := ne_e hf_mg hf_mn (by simp)
  have n_mr_mk : mr ≠ mk := ne_e hf_mr hf_mk (by simp)
  have n_mr_mn : mr ≠ mn := ne_e hf_mr hf_mn (by simp)
  refine lv_iconst (v := 0) hx hb dX6_rightDays_0 (by decide) ?_
  refine lv_istore_n (lv' := [(2, .int 0), (0, .ref mh), (1, .int (nI j))]) hx hb dX6_rightDays_1 rfl hl (by decide) rfl (fun ls hl => ?_)
  refine lv_iconst (v := 0) hx hb dX6_rightDays_2 (by decide) ?_
  refine lv_istore_n (lv' := [(3, .int 0), (2, .int 0), (0, .ref mh), (1, .int (nI j))]) hx hb dX6_rightDays_3 rfl hl (by decide) rfl (fun ls hl => ?_)
  have K4 : ∀ (n4 : Nat) (i : Nat) (acc : Int32), 12 - i < n4 → i ≤ 12 → acc = rightN (kd j) (nu j) gl rn i → ∀ (ls : Array Slot), lv_has ls 4 [(3, .int (nI i)), (2, .int acc), (1, .int (nI j)), (0, .ref mh)] → W p l e ({ frames := 2, cells := 0, slots := 0, locals := 46 } : Room) s m args below meth c s.heap [] 0 0 Q (F0 m 4 ls []) := by
    intro n4
    induction n4 with
    | zero => intros; omega
    | succ n4 ih4 =>
      intro i acc hm4 hi ha ls hl
      refine lv_iload_n hx hb dX6_rightDays_4 rfl (lv_at hl 0 rfl) ?_
      refine lv_bipush (v := 12) hx hb dX6_rightDays_5 (by decide) ?_
      refine lv_icmp_ge (tgt := 33) hx hb dX6_rightDays_7 (by decide) (fun c7 => ?_) (fun c7 => ?_)
      · skip
        have c7 : 12 ≤ i := (nI_leI (a := 12) (b := i) (by omega) (by omega)).mp (show nI 12 ≤ nI i from c7)
        refine lv_iload_n hx hb dX6_rightDays_33 rfl (lv_at hl 1 rfl) ?_
        exact hend (acc) _ _ (by rw [ha, show i = 12 from (by omega)]) rfl dX6_rightDays_34
      · skip
        have c7 : ¬ 12 ≤ i := fun h => c7 ((nI_leI (a := 12) (b := i) (by omega) (by omega)).mpr h)
        refine lv_iload_n hx hb dX6_rightDays_10 rfl (lv_at hl 1 rfl) ?_
        refine lv_aload_n hx hb dX6_rightDays_11 rfl (lv_at hl 3 rfl) ?_
        refine lv_iload_n hx hb dX6_rightDays_12 rfl (lv_at hl 2 rfl) ?_
        refine lv_iload_n hx hb dX6_rightDays_13 rfl (lv_at hl 0 rfl) ?_
        refine ro_V (As := [.int (nI j), .int (nI i)]) (rest := [.int acc]) ⟨hx, hb, hml, hown, hts⟩ (m_X6_isRight l g L f _ _ _ _ _ _ _ _ _ _ _ _ _ _ _ j i hL_mh hf_mh hL_mg hf_mg hL_mr hf_mr hL_mk hf_mk hL_mn hf_mn hj (by omega)) (cwV 2 hts gX6_rightDays_X6_isRight rfl rfl rfl (by decide +kernel) ⟨Nat.le_of_ble_eq_true rfl, Nat.le_of_ble_eq_true rfl⟩) hK hP hL_mh hf_mh rfl rfl hl.1 rfl (Nat.le_of_ble_eq_true rfl) dX6_rightDays_14 ⟨Nat.zero_le _, Nat.zero_le _⟩ (fun r14 hr14 => ?_)
        have hr14 : r14 = b2i (sayB (kd j) (nu j) gl rn i == decide (rn i = 1)) := by rw [Nat.mod_eq_of_lt (show i < 12 by omega)] at hr14; exact hr14
        subst hr14
        refine lv_if_eq (tgt := 24) hx hb dX6_rightDays_17 (by decide) (fun c17 => ?_) (fun c17 => ?_)
        · skip
          refine lv_iconst (v := 0) hx hb dX6_rightDays_24 (by decide) ?_
          refine lv_iadd hx hb dX6_rightDays_25 ?_
          refine lv_topi (fun v25 ev25 => ?_)
          refine lv_istore_n (lv' := [(2, .int v25), (3, .int (nI i)), (1, .int (nI j)), (0, .ref mh)]) hx hb dX6_rightDays_26 rfl hl (by decide) rfl (fun ls hl => ?_)
          refine lv_iinc (v := nI (i + 1)) (lv' := [(3, .int (nI (i + 1))), (2, .int v25), (1, .int (nI j)), (0, .ref mh)]) hx hb dX6_rightDays_27 hl (k := 1) rfl (nI_1 _) (by decide) rfl (fun ls hl => ?_)
          refine lv_goto (tgt := 4) hx hb dX6_rightDays_30 (by decide) ?_
          exact ih4 (i + 1) v25 (by omega) (by omega) (sumN_s ha (b2z c17 ev25)) ls (lv_sub hl [0, 1, 2, 3] rfl)
        · skip
          refine lv_iconst (v := 1) hx hb dX6_rightDays_20 (by decide) ?_
          refine lv_goto (tgt := 25) hx hb dX6_rightDays_21 (by decide) ?_
          refine lv_iadd hx hb dX6_rightDays_25 ?_
          refine lv_topi (fun v25 ev25 => ?_)
          refine lv_istore_n (lv' := [(2, .int v25), (3, .int (nI i)), (1, .int (nI j)), (0, .ref mh)]) hx hb dX6_rightDays_26 rfl hl (by decide) rfl (fun ls hl => ?_)
          refine lv_iinc (v := nI (i + 1)) (lv' := [(3, .int (nI (i + 1))), (2, .int v25), (1, .int (nI j)), (0, .ref mh)]) hx hb dX6_rightDays_27 hl (k := 1) rfl (nI_1 _) (by decide) rfl (fun ls hl => ?_)
          refine lv_goto (tgt := 4) hx hb dX6_rightDays_30 (by decide) ?_
          exact ih4 (i + 1) v25 (by omega) (by omega) (sumN_s ha (b2o c17 ev25)) ls (lv_sub hl [0, 1, 2, 3] rfl)
  exact K4 _ 0 0 (Nat.lt_succ_self _) (Nat.zero_le _) (rfl) ls (lv_sub hl [0, 1, 3, 2] rfl)

set_option maxHeartbeats 4000000 in
set_option maxRecDepth 100000 in
theorem m_X6_lean (l : Launch) (g : GG) (L : List Nat) (f : Nat → va_E) (mh mg mr mk mn ms nw ah n nv : Nat) (th : Int32)(oh op oc orr ow d : Nat) (ht : Int32) (sd wt : Nat → Int32) (v : Nat) (hL_mh : mh ∈ L) (hf_mh : f mh = eO 7 [.int th, .ref mg, .ref mr, .int (nI n), .ref mk, .ref mn, .int (nI nv), .ref ms, .ref nw, .ref ah]) (hL_ms : ms ∈ L) (hf_ms : f ms = eI g 8 sd) (hL_oh : oh ∈ L) (hf_oh : f oh = eO 6 [.int (nI d), .int ht, .ref op, .ref oc, .ref orr, .ref ow]) (hL_ow : ow ∈ L) (hf_ow : f ow = eI g 48 wt) (hn : n ≤ 8) (hv : v < 6) : RO l g yX6_lean wsX6_lean 0 0 L f [.ref mh, .ref oh, .int (nI v)] (fun r => r = leanN sd wt v n) := by
  refine RO.start (cc := cX6_lean) (maxL := 5) (ret := .int) (by decide +kernel) rfl (by simp [lg_sl, Value.category]) ?_
  intro p e s m args below meth c Q ls hx hb hml hts hown hP hK hl hend
  have hl : lv_has ls 5 [(0, .ref mh), (1, .ref oh), (2, .int (nI v))] := hl
  have hi_X5 : ∀ w ∈ u_ws RX5 TX5 6, w ∈ wsX6_lean := by decide +kernel
  have hi_X6 : ∀ w ∈ u_ws RX6 TX6 10, w ∈ wsX6_lean := by decide +kernel
  have n_mh_ms : mh ≠ ms := ne_e hf_mh hf_ms (by simp)
  have n_mh_oh : mh ≠ oh := ne_e hf_mh hf_oh (by simp)
  have n_mh_ow : mh ≠ ow := ne_e hf_mh hf_ow (by simp)
  have n_ms_oh : ms ≠ oh := ne_e hf_ms hf_oh (by simp)
  have n_ms_ow : ms ≠ ow := ne_e hf_ms hf_ow (by simp)
  have n_oh_ow : oh ≠ ow := ne_e hf_oh hf_ow (by simp)
  refine lv_iconst (v := 0) hx hb dX6_lean_0 (by decide) ?_
  refine lv_istore_n (lv' := [(3, .int 0), (0, .ref mh), (1, .ref oh), (2, .int (nI v))]) hx hb dX6_lean_1 rfl hl (by decide) rfl (fun ls hl => ?_)
  refine lv_iconst (v := 0) hx hb dX6_lean_2 (by decide) ?_
  refine lv_istore (lv' := [(4, .int 0), (3, .int 0), (0, .ref mh), (1, .ref oh), (2, .int (nI v))]) hx hb dX6_lean_3 hl (by decide) rfl (fun ls hl => ?_)
  have K5 : ∀ (n5 : Nat) (i : Nat) (acc : Int32), n - i < n5 → i ≤ n → acc = leanN sd wt v i → ∀ (ls : Array Slot), lv_has ls 5 [(4, .int (nI i)), (3, .int acc), (2, .int (nI v)), (1, .ref oh), (0, .ref mh)] → W p l e ({ frames := 0, cells := 0, slots := 0, locals := 0 } : Room) s m args below meth c s.heap [] 0 0 Q (F0 m 5 ls []) := by
    intro n5
    induction n5 with
    | zero => intros; omega
    | succ n5 ih5 =>
      intro i acc hm5 hi ha ls hl
      refine lv_iload hx hb dX6_lean_5 (lv_at hl 0 rfl) ?_
      refine lv_aload_n hx hb dX6_lean_7 rfl (lv_at hl 4 rfl) ?_
      refine pg_get (C := RX6) (T := TX6) (N := 10) hx hb hts hi_X6 hown hK hP hL_mh hf_mh rfl 3 (by decide) (hts (.fieldLink RX6 45 "BarometerLeagueModel" "signs" "I") (by decide +kernel)) (fun _ h9 => h9) rfl dX6_lean_8 ?_
      refine lv_icmp_ge (tgt := 62) hx hb dX6_lean_11 (by decide) (fun c11 => ?_) (fun c11 => ?_)
      · skip
        have c11 : n ≤ i := (nI_leI (a := n) (b := i) (by omega) (by omega)).mp (show nI n ≤ nI i from c11)
        refine lv_iload_n hx hb dX6_lean_62 rfl (lv_at hl 1 rfl) ?_
        exact hend (acc) _ _ (by rw [ha, show i = n from (by omega)]) rfl dX6_lean_63
      · skip
        have c11 : ¬ n ≤ i := fun h => c11 ((nI_leI (a := n) (b := i) (by omega) (by omega)).mpr h)
        refine lv_iload_n hx hb dX6_lean_14 rfl (lv_at hl 1 rfl) ?_
        refine lv_aload_n hx hb dX6_lean_15 rfl (lv_at hl 4 rfl) ?_
        refine pg_get (C := RX6) (T := TX6) (N := 10) hx hb hts hi_X6 hown hK hP hL_mh hf_mh rfl 7 (by decide) (hts (.fieldLink RX6 22 "BarometerLeagueModel" "said" "[I") (by decide +kernel)) (fun _ h9 => h9) rfl dX6_lean_16 ?_
        refine lv_iload hx hb dX6_lean_19 (lv_at hl 0 rfl) ?_
        refine pn_iald (j := i) hx hb hK hP hL_ms hf_ms rfl (by omega) (Nat.lt_of_lt_of_le (m := 100) (by omega) (by omega)) dX6_lean_21 ?_
        refine lv_iconst (v := 1) hx hb dX6_lean_22 (by decide) ?_
        refine lv_icmp_ne (tgt := 41) hx hb dX6_lean_23 (by decide) (fun c23 => ?_) (fun c23 => ?_)
        · skip
          refine lv_aload_n hx hb dX6_lean_41 rfl (lv_at hl 3 rfl) ?_
          refine pg_getN (C := RX5) (T := TX5) (N := 6) hx hb hts hi_X5 hown hK hP hL_oh hf_oh rfl 5 (by decide) (hK.nest 12 rfl) (fun _ h9 => h9) rfl dX6_lean_42 ?_
          refine lv_bipush (v := 8) hx hb dX6_lean_45 (by decide) ?_
          refine lv_iload_n hx hb dX6_lean_47 rfl (lv_at hl 2 rfl) ?_
          refine lv_imul hx hb dX6_lean_48 ?_
          refine lv_topi (fun v48 ev48 => ?_)
          refine lv_iload hx hb dX6_lean_49 (lv_at hl 0 rfl) ?_
          refine lv_iadd hx hb dX6_lean_51 ?_
          refine lv_topi (fun v51 ev51 => ?_)
          refine pn_iald (j := 8 * v + i) hx hb hK hP hL_ow hf_ow (ev51.trans (nat_add (ev48.trans (nat_mul rfl rfl)) rfl)) (by omega) (Nat.lt_of_lt_of_le (m := 100) (by omega) (by omega)) dX6_lean_52 ?_
          refine lv_ineg hx hb dX6_lean_53 ?_
          refine lv_topi (fun v53 ev53 => ?_)
          refine lv_iadd hx hb dX6_lean_54 ?_
          refine lv_topi (fun v54 ev54 => ?_)
          refine lv_istore_n (lv' := [(3, .int v54), (4, .int (nI i)), (2, .int (nI v)), (1, .ref oh), (0, .ref mh)]) hx hb dX6_lean_55 rfl hl (by decide) rfl (fun ls hl => ?_)
          refine lv_iinc (v := nI (i + 1)) (lv' := [(4, .int (nI (i + 1))), (3, .int v54), (2, .int (nI v)), (1, .ref oh), (0, .ref mh)]) hx hb dX6_lean_56 hl (k := 1) rfl (nI_1 _) (by decide) rfl (fun ls hl => ?_)
          refine lv_goto (tgt := 5) hx hb dX6_lean_59 (by decide) ?_
          exact ih5 (i + 1) v54 (by omega) (by omega) (sumN_s ha (by rw [ev54, ev53]; exact congrArg (acc + ·) (if_neg c23).symm)) ls (lv_sub hl [0, 1, 2, 3, 4] rfl)
        · skip
          refine lv_aload_n hx hb dX6_lean_26 rfl (lv_at hl 3 rfl) ?_
          refine pg_getN (C := RX5) (T := TX5) (N := 6) hx hb hts hi_X5 hown hK hP hL_oh hf_oh rfl 5 (by decide) (hK.nest 12 rfl) (fun _ h9 => h9) rfl dX6_lean_27 ?_
          refine lv_bipush (v := 8) hx hb dX6_lean_30 (by decide) ?_
          refine lv_iload_n hx hb dX6_lean_32 rfl (lv_at hl 2 rfl) ?_
          refine lv_imul hx hb dX6_lean_33 ?_
          refine lv_topi (fun v33 ev33 => ?_)
          refine lv_iload hx hb dX6_lean_34 (lv_at hl 0 rfl) ?_
          refine lv_iadd hx hb dX6_lean_36 ?_
          refine lv_topi (fun v36 ev36 => ?_)
          refine pn_iald (j := 8 * v + i) hx hb hK hP hL_ow hf_ow (ev36.trans (nat_add (ev33.trans (nat_mul rfl rfl)) rfl)) (by omega) (Nat.lt_of_lt_of_le (m := 100) (by omega) (by omega)) dX6_lean_37 ?_
          refine lv_goto (tgt := 54) hx hb dX6_lean_38 (by decide) ?_
          refine lv_iadd hx hb dX6_lean_54 ?_
          refine lv_topi (fun v54 ev54 => ?_)
          refine lv_istore_n (lv' := [(3, .int v54), (4, .int (nI i)), (2, .int (nI v)), (1, .ref oh), (0, .ref mh)]) hx hb dX6_lean_55 rfl hl (by decide) rfl (fun ls hl => ?_)
          refine lv_iinc (v := nI (i + 1)) (lv' := [(4, .int (nI (i + 1))), (3, .int v54), (2, .int (nI v)), (1, .ref oh), (0, .ref mh)]) hx hb dX6_lean_56 hl (k := 1) rfl (nI_1 _) (by decide) rfl (fun ls hl => ?_)
          refine lv_goto (tgt := 5) hx hb dX6_lean_59 (by decide) ?_
          exact ih5 (i + 1) v54 (by omega) (by omega) (sumN_s ha (by rw [ev54]; exact congrArg (acc + ·) (if_pos c23).symm)) ls (lv_sub hl [0, 1, 2, 3, 4] rfl)
  exact K5 _ 0 0 (Nat.lt_succ_self _) (Nat.zero_le _) (rfl) ls (lv_sub hl [0, 1, 4, 3, 2] rfl)

set_option maxHeartbeats 4000000 in
set_option maxRecDepth 100000 in
theorem m_X6_guess (l : Launch) (g : GG) (L : List Nat) (f : Nat → va_E) (sz : Nat) (hN : L.Nodup) (mh mg mr mk mn ms nw ah n nv : Nat) (th : Int32)(oh op oc orr ow d : Nat) (ht : Int32) (sd wt pt ro : Nat → Int32) (v : Nat) (w : Int32) (hL_mh : mh ∈ L) (hf_mh : f mh = eO 7 [.int th, .ref mg, .ref mr, .int (nI n), .ref mk, .ref mn, .int (nI nv), .ref ms, .ref nw, .ref ah]) (hL_ms : ms ∈ L) (hf_ms : f ms = eI g 8 sd) (hL_oh : oh ∈ L) (hf_oh : f oh = eO 6 [.int (nI d), .int ht, .ref op, .ref oc, .ref orr, .ref ow]) (hL_ow : ow ∈ L) (hf_ow : f ow = eI g 48 wt) (hL_op : op ∈ L) (hf_op : f op = eI g 6 pt) (hL_orr : orr ∈ L) (hf_orr : f orr = eI g 6 ro) (n_op_orr : op ≠ orr) (hn : n ≤ 8) (hv : v < 6) : RV l g yX6_guess wsX6_guess 1 24 L f sz [.ref mh, .ref oh, .int (nI v), .int w] (fun f2 => f2 op = eI g 6 (upd pt v (pt v + b2i (mhit (leanN sd wt v n) w))) ∧ f2 oh = eO 6 [.int (nI d), .int (ht + b2i (mhit (leanN sd wt v n) w)), .ref op, .ref oc, .ref orr, .ref ow] ∧ f2 orr = eI g 6 (upd ro v (if mhit (leanN sd wt v n) w then ro v + 1 else 0)) ∧ Fr f f2 [op, oh, orr]) := by
  refine RV.start (cc := cX6_guess) (maxL := 5) (by decide +kernel) rfl (by simp [lg_sl, Value.category]) ?_
  intro p e s m args below meth c Q ls A hx hb hml hts hown hA hA2 hS hP hK hl hend
  have hl : lv_has ls 5 [(0, .ref mh), (1, .ref oh), (2, .int (nI v)), (3, .int w)] := hl
  have hi_X5 : ∀ w ∈ u_ws RX5 TX5 6, w ∈ wsX6_guess := by decide +kernel
  have hFr : Fr f f [op, oh, orr] := Fr.rf
  have n_mh_ms : mh ≠ ms := ne_e hf_mh hf_ms (by simp)
  have n_mh_oh : mh ≠ oh := ne_e hf_mh hf_oh (by simp)
  have n_mh_ow : mh ≠ ow := ne_e hf_mh hf_ow (by simp)
  have n_mh_op : mh ≠ op := ne_e hf_mh hf_op (by simp)
  have n_mh_orr : mh ≠ orr := ne_e hf_mh hf_orr (by simp)
  have n_ms_oh : ms ≠ oh := ne_e hf_ms hf_oh (by simp)
  have n_ms_ow : ms ≠ ow := ne_e hf_ms hf_ow (by simp)
  have n_ms_op : ms ≠ op := ne_e hf_ms hf_op (by simp)
  have n_ms_orr : ms ≠ orr := ne_e hf_ms hf_orr (by simp)
  have n_oh_ow : oh ≠ ow := ne_e hf_oh hf_ow (by simp)
  have n_oh_op : oh ≠ op := ne_e hf_oh hf_op (by simp)
  have n_oh_orr : oh ≠ orr := ne_e hf_oh hf_orr (by simp)
  have n_ow_op : ow ≠ op := ne_e hf_ow hf_op (by simp)
  have n_ow_orr : ow ≠ orr := ne_e hf_ow hf_orr (by simp)
  have h0f_mh := hf_mh
  have h0f_ms := hf_ms
  have h0f_oh := hf_oh
  have h0f_ow := hf_ow
  have h0f_op := hf_op
  have h0f_orr := hf_orr
  refine lv_aload_n hx hb dX6_guess_0 rfl (lv_at hl 0 rfl) ?_
  refine lv_aload_n hx hb dX6_guess_1 rfl (lv_at hl 1 rfl) ?_
  refine lv_iload_n hx hb dX6_guess_2 rfl (lv_at hl 2 rfl) ?_
  refine ro_V (As := [.ref oh, .int (nI v)]) (rest := []) ⟨hx, hb, hml, hown, hts⟩ (m_X6_lean l g L f _ _ _ _ _ _ _ _ _ _ _ _ _ _ _ _ _ _ _ _ v hL_mh hf_mh hL_ms hf_ms hL_oh hf_oh hL_ow hf_ow hn hv) (cwV 2 hts gX6_guess_X6_lean rfl rfl rfl (by decide +kernel) ⟨Nat.le_of_ble_eq_true rfl, Nat.le_of_ble_eq_true rfl⟩) hK hP hL_mh hf_mh rfl rfl hl.1 rfl (Nat.le_of_ble_eq_true rfl) dX6_guess_3 ⟨Nat.zero_le _, Nat.zero_le _⟩ (fun r3 hr3 => ?_)
  have hr3 : r3 = leanN sd wt v n := hr3
  subst hr3
  refine lv_if_le (tgt := 13) hx hb dX6_guess_6 (by decide) (fun c6 => ?_) (fun c6 => ?_)
  · skip
    refine lv_iconst (v := 0) hx hb dX6_guess_13 (by decide) ?_
    refine lv_iload_n hx hb dX6_guess_14 rfl (lv_at hl 3 rfl) ?_
    refine lv_iconst (v := 1) hx hb dX6_guess_15 (by decide) ?_
    refine lv_icmp_ne (tgt := 23) hx hb dX6_guess_16 (by decide) (fun c16 => ?_) (fun c16 => ?_)
    · skip
      refine lv_iconst (v := 0) hx hb dX6_guess_23 (by decide) ?_
      refine lv_icmp_ne (tgt := 31) hx hb dX6_guess_24 (by decide) (fun h => absurd h (by decide)) (fun _ => ?_)
      refine lv_iconst (v := 1) hx hb dX6_guess_27 (by decide) ?_
      refine lv_goto (tgt := 32) hx hb dX6_guess_28 (by decide) ?_
      refine lv_istore (lv' := [(4, .int 1), (0, .ref mh), (1, .ref oh), (2, .int (nI v)), (3, .int w)]) hx hb dX6_guess_32 hl (by decide) rfl (fun ls hl => ?_)
      have hh : mhit (leanN sd wt v n) w = true := by unfold mhit; rw [decide_eq_false (Int32.not_lt.mpr c6), decide_eq_false c16]; rfl
      refine lv_aload_n hx hb dX6_guess_34 rfl (lv_at hl 2 rfl) ?_
      refine pg_getN (C := RX5) (T := TX5) (N := 6) hx hb hts hi_X5 hown hK hP hL_oh hf_oh rfl 2 (by decide) (hK.nest 9 rfl) (fun _ h9 => h9) rfl dX6_guess_35 ?_
      refine lv_iload_n hx hb dX6_guess_38 rfl (lv_at hl 3 rfl) ?_
      refine lv_dup2_11 hx hb dX6_guess_39 rfl rfl ?_
      refine pn_iald (j := v) hx hb hK hP hL_op hf_op rfl (by omega) (Nat.lt_of_lt_of_le (m := 100) (by omega) (by omega)) dX6_guess_40 ?_
      refine lv_iload hx hb dX6_guess_41 (lv_at hl 0 rfl) ?_
      refine lv_if_eq (tgt := 50) hx hb dX6_guess_43 (by decide) (fun h => absurd h (by decide)) (fun _ => ?_)
      refine lv_iconst (v := 1) hx hb dX6_guess_46 (by decide) ?_
      refine lv_goto (tgt := 51) hx hb dX6_guess_47 (by decide) ?_
      refine lv_iadd hx hb dX6_guess_51 ?_
      refine lv_topi (fun v51 ev51 => ?_)
      refine pn_iast (j := v) hx hb hK hP hN hA hS hL_op hf_op rfl (by omega) (Nat.lt_of_lt_of_le (m := 100) (by omega) (by omega)) dX6_guess_52 (fun H locs hP hS => ?_)
      obtain ⟨f52, ef52⟩ : ∃ z, z = va_up f op (eI g 6 (upd pt v v51)) := ⟨_, rfl⟩
      replace hP : PP g L f52 H := by rw [ef52]; exact hP
      have hf_mh : f52 mh = eO 7 [.int th, .ref mg, .ref mr, .int (nI n), .ref mk, .ref mn, .int (nI nv), .ref ms, .ref nw, .ref ah] := by rw [ef52, va_up_ne _ _ n_mh_op]; exact hf_mh
      have hf_ms : f52 ms = eI g 8 sd := by rw [ef52, va_up_ne _ _ n_ms_op]; exact hf_ms
      have hf_oh : f52 oh = eO 6 [.int (nI d), .int ht, .ref op, .ref oc, .ref orr, .ref ow] := by rw [ef52, va_up_ne _ _ n_oh_op]; exact hf_oh
      have hf_ow : f52 ow = eI g 48 wt := by rw [ef52, va_up_ne _ _ n_ow_op]; exact hf_ow
      have hf_orr : f52 orr = eI g 6 ro := by rw [ef52, va_up_ne _ _ n_op_orr.symm]; exact hf_orr
      have hf_op : f52 op = eI g 6 (upd pt v v51) := by rw [ef52]; exact va_up_self _ _ _
      replace hFr : Fr f f52 [op, oh, orr] := by rw [ef52]; exact hFr.up (by simp)
      refine lv_aload_n hx hb dX6_guess_53 rfl (lv_at hl 2 rfl) ?_
      refine lv_dup hx hb dX6_guess_54 rfl ?_
      refine pg_getN (C := RX5) (T := TX5) (N := 6) hx hb hts hi_X5 hown hK hP hL_oh hf_oh rfl 1 (by decide) (hK.nest 8 rfl) (fun _ h9 => h9) rfl dX6_guess_55 ?_
      refine lv_iload hx hb dX6_guess_58 (lv_at hl 0 rfl) ?_
      refine lv_if_eq (tgt := 67) hx hb dX6_guess_60 (by decide) (fun h => absurd h (by decide)) (fun _ => ?_)
      refine lv_iconst (v := 1) hx hb dX6_guess_63 (by decide) ?_
      refine lv_goto (tgt := 68) hx hb dX6_guess_64 (by decide) ?_
      refine lv_iadd hx hb dX6_guess_68 ?_
      refine lv_topi (fun v68 ev68 => ?_)
      refine pg_putN (ty := .int) (C := RX5) (T := TX5) (N := 6) hx hb hts hi_X5 tyX5 tyX5_ok nmX5 hown hK hP hN hA hS hL_oh hf_oh rfl 1 (by decide) (hK.nest 8 rfl) (fun _ h9 => h9) rfl (by decide +kernel) rfl rfl (Nat.le_of_ble_eq_true rfl) dX6_guess_69 (fun H locs hP hS => ?_)
      obtain ⟨f69, ef69⟩ : ∃ z, z = va_up f52 oh (eO 6 [.int (nI d), .int v68, .ref op, .ref oc, .ref orr, .ref ow]) := ⟨_, rfl⟩
      replace hP : PP g L f69 H := by rw [ef69]; exact hP
      have hf_mh : f69 mh = eO 7 [.int th, .ref mg, .ref mr, .int (nI n), .ref mk, .ref mn, .int (nI nv), .ref ms, .ref nw, .ref ah] := by rw [ef69, va_up_ne _ _ n_mh_oh]; exact hf_mh
      have hf_ms : f69 ms = eI g 8 sd := by rw [ef69, va_up_ne _ _ n_ms_oh]; exact hf_ms
      have hf_ow : f69 ow = eI g 48 wt := by rw [ef69, va_up_ne _ _ n_oh_ow.symm]; exact hf_ow
      have hf_op : f69 op = eI g 6 (upd pt v v51) := by rw [ef69, va_up_ne _ _ n_oh_op.symm]; exact hf_op
      have hf_orr : f69 orr = eI g 6 ro := by rw [ef69, va_up_ne _ _ n_oh_orr.symm]; exact hf_orr
      have hf_oh : f69 oh = eO 6 [.int (nI d), .int v68, .ref op, .ref oc, .ref orr, .ref ow] := by rw [ef69]; exact va_up_self _ _ _
      replace hFr : Fr f f69 [op, oh, orr] := by rw [ef69]; exact hFr.up (by simp)
      refine lv_aload_n hx hb dX6_guess_72 rfl (lv_at hl 2 rfl) ?_
      refine pg_getN (C := RX5) (T := TX5) (N := 6) hx hb hts hi_X5 hown hK hP hL_oh hf_oh rfl 4 (by decide) (hK.nest 11 rfl) (fun _ h9 => h9) rfl dX6_guess_73 ?_
      refine lv_iload_n hx hb dX6_guess_76 rfl (lv_at hl 3 rfl) ?_
      refine lv_iload hx hb dX6_guess_77 (lv_at hl 0 rfl) ?_
      refine lv_if_eq (tgt := 93) hx hb dX6_guess_79 (by decide) (fun h => absurd h (by decide)) (fun _ => ?_)
      refine lv_aload_n hx hb dX6_guess_82 rfl (lv_at hl 2 rfl) ?_
      refine pg_getN (C := RX5) (T := TX5) (N := 6) hx hb hts hi_X5 hown hK hP hL_oh hf_oh rfl 4 (by decide) (hK.nest 11 rfl) (fun _ h9 => h9) rfl dX6_guess_83 ?_
      refine lv_iload_n hx hb dX6_guess_86 rfl (lv_at hl 3 rfl) ?_
      refine pn_iald (j := v) hx hb hK hP hL_orr hf_orr rfl (by omega) (Nat.lt_of_lt_of_le (m := 100) (by omega) (by omega)) dX6_guess_87 ?_
      refine lv_iconst (v := 1) hx hb dX6_guess_88 (by decide) ?_
      refine lv_iadd hx hb dX6_guess_89 ?_
      refine lv_topi (fun v89 ev89 => ?_)
      refine lv_goto (tgt := 94) hx hb dX6_guess_90 (by decide) ?_
      refine pn_iast (j := v) hx hb hK hP hN hA hS hL_orr hf_orr rfl (by omega) (Nat.lt_of_lt_of_le (m := 100) (by omega) (by omega)) dX6_guess_94 (fun H locs hP hS => ?_)
      obtain ⟨f94, ef94⟩ : ∃ z, z = va_up f69 orr (eI g 6 (upd ro v v89)) := ⟨_, rfl⟩
      replace hP : PP g L f94 H := by rw [ef94]; exact hP
      have hf_mh : f94 mh = eO 7 [.int th, .ref mg, .ref mr, .int (nI n), .ref mk, .ref mn, .int (nI nv), .ref ms, .ref nw, .ref ah] := by rw [ef94, va_up_ne _ _ n_mh_orr]; exact hf_mh
      have hf_ms : f94 ms = eI g 8 sd := by rw [ef94, va_up_ne _ _ n_ms_orr]; exact hf_ms
      have hf_oh : f94 oh = eO 6 [.int (nI d), .int v68, .ref op, .ref oc, .ref orr, .ref ow] := by rw [ef94, va_up_ne _ _ n_oh_orr]; exact hf_oh
      have hf_ow : f94 ow = eI g 48 wt := by rw [ef94, va_up_ne _ _ n_ow_orr]; exact hf_ow
      have hf_op : f94 op = eI g 6 (upd pt v v51) := by rw [ef94, va_up_ne _ _ n_op_orr]; exact hf_op
      have hf_orr : f94 orr = eI g 6 (upd ro v v89) := by rw [ef94]; exact va_up_self _ _ _
      replace hFr : Fr f f94 [op, oh, orr] := by rw [ef94]; exact hFr.up (by simp)
      exact hend f94 _ _ _ _ (⟨by rw [hf_op, ev51, hh]; rfl, by rw [hf_oh, ev68, hh]; rfl, by rw [hf_orr, hh]; rw [ev89]; rfl, hFr⟩) hP hS dX6_guess_95
    · skip
      refine lv_iconst (v := 1) hx hb dX6_guess_19 (by decide) ?_
      refine lv_goto (tgt := 24) hx hb dX6_guess_20 (by decide) ?_
      refine lv_icmp_ne (tgt := 31) hx hb dX6_guess_24 (by decide) (fun _ => ?_) (fun h => absurd h (by decide))
      refine lv_iconst (v := 0) hx hb dX6_guess_31 (by decide) ?_
      refine lv_istore (lv' := [(4, .int 0), (0, .ref mh), (1, .ref oh), (2, .int (nI v)), (3, .int w)]) hx hb dX6_guess_32 hl (by decide) rfl (fun ls hl => ?_)
      have hh : mhit (leanN sd wt v n) w = false := by unfold mhit; rw [decide_eq_false (Int32.not_lt.mpr c6), decide_eq_true c16]; rfl
      refine lv_aload_n hx hb dX6_guess_34 rfl (lv_at hl 2 rfl) ?_
      refine pg_getN (C := RX5) (T := TX5) (N := 6) hx hb hts hi_X5 hown hK hP hL_oh hf_oh rfl 2 (by decide) (hK.nest 9 rfl) (fun _ h9 => h9) rfl dX6_guess_35 ?_
      refine lv_iload_n hx hb dX6_guess_38 rfl (lv_at hl 3 rfl) ?_
      refine lv_dup2_11 hx hb dX6_guess_39 rfl rfl ?_
      refine pn_iald (j := v) hx hb hK hP hL_op hf_op rfl (by omega) (Nat.lt_of_lt_of_le (m := 100) (by omega) (by omega)) dX6_guess_40 ?_
      refine lv_iload hx hb dX6_guess_41 (lv_at hl 0 rfl) ?_
      refine lv_if_eq (tgt := 50) hx hb dX6_guess_43 (by decide) (fun _ => ?_) (fun h => absurd (by decide) h)
      refine lv_iconst (v := 0) hx hb dX6_guess_50 (by decide) ?_
      refine lv_iadd hx hb dX6_guess_51 ?_
      refine lv_topi (fun v51 ev51 => ?_)
      refine pn_iast (j := v) hx hb hK hP hN hA hS hL_op hf_op rfl (by omega) (Nat.lt_of_lt_of_le (m := 100) (by omega) (by omega)) dX6_guess_52 (fun H locs hP hS => ?_)
      obtain ⟨f52, ef52⟩ : ∃ z, z = va_up f op (eI g 6 (upd pt v v51)) := ⟨_, rfl⟩
      replace hP : PP g L f52 H := by rw [ef52]; exact hP
      have hf_mh : f52 mh = eO 7 [.int th, .ref mg, .ref mr, .int (nI n), .ref mk, .ref mn, .int (nI nv), .ref ms, .ref nw, .ref ah] := by rw [ef52, va_up_ne _ _ n_mh_op]; exact hf_mh
      have hf_ms : f52 ms = eI g 8 sd := by rw [ef52, va_up_ne _ _ n_ms_op]; exact hf_ms
      have hf_oh : f52 oh = eO 6 [.int (nI d), .int ht, .ref op, .ref oc, .ref orr, .ref ow] := by rw [ef52, va_up_ne _ _ n_oh_op]; exact hf_oh
      have hf_ow : f52 ow = eI g 48 wt := by rw [ef52, va_up_ne _ _ n_ow_op]; exact hf_ow
      have hf_orr : f52 orr = eI g 6 ro := by rw [ef52, va_up_ne _ _ n_op_orr.symm]; exact hf_orr
      have hf_op : f52 op = eI g 6 (upd pt v v51) := by rw [ef52]; exact va_up_self _ _ _
      replace hFr : Fr f f52 [op, oh, orr] := by rw [ef52]; exact hFr.up (by simp)
      refine lv_aload_n hx hb dX6_guess_53 rfl (lv_at hl 2 rfl) ?_
      refine lv_dup hx hb dX6_guess_54 rfl ?_
      refine pg_getN (C := RX5) (T := TX5) (N := 6) hx hb hts hi_X5 hown hK hP hL_oh hf_oh rfl 1 (by decide) (hK.nest 8 rfl) (fun _ h9 => h9) rfl dX6_guess_55 ?_
      refine lv_iload hx hb dX6_guess_58 (lv_at hl 0 rfl) ?_
      refine lv_if_eq (tgt := 67) hx hb dX6_guess_60 (by decide) (fun _ => ?_) (fun h => absurd (by decide) h)
      refine lv_iconst (v := 0) hx hb dX6_guess_67 (by decide) ?_
      refine lv_iadd hx hb dX6_guess_68 ?_
      refine lv_topi (fun v68 ev68 => ?_)
      refine pg_putN (ty := .int) (C := RX5) (T := TX5) (N := 6) hx hb hts hi_X5 tyX5 tyX5_ok nmX5 hown hK hP hN hA hS hL_oh hf_oh rfl 1 (by decide) (hK.nest 8 rfl) (fun _ h9 => h9) rfl (by decide +kernel) rfl rfl (Nat.le_of_ble_eq_true rfl) dX6_guess_69 (fun H locs hP hS => ?_)
      obtain ⟨f69, ef69⟩ : ∃ z, z = va_up f52 oh (eO 6 [.int (nI d), .int v68, .ref op, .ref oc, .ref orr, .ref ow]) := ⟨_, rfl⟩
      replace hP : PP g L f69 H := by rw [ef69]; exact hP
      have hf_mh : f69 mh = eO 7 [.int th, .ref mg, .ref mr, .int (nI n), .ref mk, .ref mn, .int (nI nv), .ref ms, .ref nw, .ref ah] := by rw [ef69, va_up_ne _ _ n_mh_oh]; exact hf_mh
      have hf_ms : f69 ms = eI g 8 sd := by rw [ef69, va_up_ne _ _ n_ms_oh]; exact hf_ms
      have hf_ow : f69 ow = eI g 48 wt := by rw [ef69, va_up_ne _ _ n_oh_ow.symm]; exact hf_ow
      have hf_op : f69 op = eI g 6 (upd pt v v51) := by rw [ef69, va_up_ne _ _ n_oh_op.symm]; exact hf_op
      have hf_orr : f69 orr = eI g 6 ro := by rw [ef69, va_up_ne _ _ n_oh_orr.symm]; exact hf_orr
      have hf_oh : f69 oh = eO 6 [.int (nI d), .int v68, .ref op, .ref oc, .ref orr, .ref ow] := by rw [ef69]; exact va_up_self _ _ _
      replace hFr : Fr f f69 [op, oh, orr] := by rw [ef69]; exact hFr.up (by simp)
      refine lv_aload_n hx hb dX6_guess_72 rfl (lv_at hl 2 rfl) ?_
      refine pg_getN (C := RX5) (T := TX5) (N := 6) hx hb hts hi_X5 hown hK hP hL_oh hf_oh rfl 4 (by decide) (hK.nest 11 rfl) (fun _ h9 => h9) rfl dX6_guess_73 ?_
      refine lv_iload_n hx hb dX6_guess_76 rfl (lv_at hl 3 rfl) ?_
      refine lv_iload hx hb dX6_guess_77 (lv_at hl 0 rfl) ?_
      refine lv_if_eq (tgt := 93) hx hb dX6_guess_79 (by decide) (fun _ => ?_) (fun h => absurd (by decide) h)
      refine lv_iconst (v := 0) hx hb dX6_guess_93 (by decide) ?_
      refine pn_iast (j := v) hx hb hK hP hN hA hS hL_orr hf_orr rfl (by omega) (Nat.lt_of_lt_of_le (m := 100) (by omega) (by omega)) dX6_guess_94 (fun H locs hP hS => ?_)
      obtain ⟨f94, ef94⟩ : ∃ z, z = va_up f69 orr (eI g 6 (upd ro v 0)) := ⟨_, rfl⟩
      replace hP : PP g L f94 H := by rw [ef94]; exact hP
      have hf_mh : f94 mh = eO 7 [.int th, .ref mg, .ref mr, .int (nI n), .ref mk, .ref mn, .int (nI nv), .ref ms, .ref nw, .ref ah] := by rw [ef94, va_up_ne _ _ n_mh_orr]; exact hf_mh
      have hf_ms : f94 ms = eI g 8 sd := by rw [ef94, va_up_ne _ _ n_ms_orr]; exact hf_ms
      have hf_oh : f94 oh = eO 6 [.int (nI d), .int v68, .ref op, .ref oc, .ref orr, .ref ow] := by rw [ef94, va_up_ne _ _ n_oh_orr]; exact hf_oh
      have hf_ow : f94 ow = eI g 48 wt := by rw [ef94, va_up_ne _ _ n_ow_orr]; exact hf_ow
      have hf_op : f94 op = eI g 6 (upd pt v v51) := by rw [ef94, va_up_ne _ _ n_op_orr]; exact hf_op
      have hf_orr : f94 orr = eI g 6 (upd ro v 0) := by rw [ef94]; exact va_up_self _ _ _
      replace hFr : Fr f f94 [op, oh, orr] := by rw [ef94]; exact hFr.up (by simp)
      exact hend f94 _ _ _ _ (⟨by rw [hf_op, ev51, hh]; rfl, by rw [hf_oh, ev68, hh]; rfl, by rw [hf_orr, hh]; rfl, hFr⟩) hP hS dX6_guess_95
  · skip
    refine lv_iconst (v := 1) hx hb dX6_guess_9 (by decide) ?_
    refine lv_goto (tgt := 14) hx hb dX6_guess_10 (by decide) ?_
    refine lv_iload_n hx hb dX6_guess_14 rfl (lv_at hl 3 rfl) ?_
    refine lv_iconst (v := 1) hx hb dX6_guess_15 (by decide) ?_
    refine lv_icmp_ne (tgt := 23) hx hb dX6_guess_16 (by decide) (fun c16 => ?_) (fun c16 => ?_)
    · skip
      refine lv_iconst (v := 0) hx hb dX6_guess_23 (by decide) ?_
      refine lv_icmp_ne (tgt := 31) hx hb dX6_guess_24 (by decide) (fun _ => ?_) (fun h => absurd h (by decide))
      refine lv_iconst (v := 0) hx hb dX6_guess_31 (by decide) ?_
      refine lv_istore (lv' := [(4, .int 0), (0, .ref mh), (1, .ref oh), (2, .int (nI v)), (3, .int w)]) hx hb dX6_guess_32 hl (by decide) rfl (fun ls hl => ?_)
      have hh : mhit (leanN sd wt v n) w = false := by unfold mhit; rw [decide_eq_true (Int32.not_le.mp c6), decide_eq_false c16]; rfl
      refine lv_aload_n hx hb dX6_guess_34 rfl (lv_at hl 2 rfl) ?_
      refine pg_getN (C := RX5) (T := TX5) (N := 6) hx hb hts hi_X5 hown hK hP hL_oh hf_oh rfl 2 (by decide) (hK.nest 9 rfl) (fun _ h9 => h9) rfl dX6_guess_35 ?_
      refine lv_iload_n hx hb dX6_guess_38 rfl (lv_at hl 3 rfl) ?_
      refine lv_dup2_11 hx hb dX6_guess_39 rfl rfl ?_
      refine pn_iald (j := v) hx hb hK hP hL_op hf_op rfl (by omega) (Nat.lt_of_lt_of_le (m := 100) (by omega) (by omega)) dX6_guess_40 ?_
      refine lv_iload hx hb dX6_guess_41 (lv_at hl 0 rfl) ?_
      refine lv_if_eq (tgt := 50) hx hb dX6_guess_43 (by decide) (fun _ => ?_) (fun h => absurd (by decide) h)
      refine lv_iconst (v := 0) hx hb dX6_guess_50 (by decide) ?_
      refine lv_iadd hx hb dX6_guess_51 ?_
      refine lv_topi (fun v51 ev51 => ?_)
      refine pn_iast (j := v) hx hb hK hP hN hA hS hL_op hf_op rfl (by omega) (Nat.lt_of_lt_of_le (m := 100) (by omega) (by omega)) dX6_guess_52 (fun H locs hP hS => ?_)
      obtain ⟨f52, ef52⟩ : ∃ z, z = va_up f op (eI g 6 (upd pt v v51)) := ⟨_, rfl⟩
      replace hP : PP g L f52 H := by rw [ef52]; exact hP
      have hf_mh : f52 mh = eO 7 [.int th, .ref mg, .ref mr, .int (nI n), .ref mk, .ref mn, .int (nI nv), .ref ms, .ref nw, .ref ah] := by rw [ef52, va_up_ne _ _ n_mh_op]; exact hf_mh
      have hf_ms : f52 ms = eI g 8 sd := by rw [ef52, va_up_ne _ _ n_ms_op]; exact hf_ms
      have hf_oh : f52 oh = eO 6 [.int (nI d), .int ht, .ref op, .ref oc, .ref orr, .ref ow] := by rw [ef52, va_up_ne _ _ n_oh_op]; exact hf_oh
      have hf_ow : f52 ow = eI g 48 wt := by rw [ef52, va_up_ne _ _ n_ow_op]; exact hf_ow
      have hf_orr : f52 orr = eI g 6 ro := by rw [ef52, va_up_ne _ _ n_op_orr.symm]; exact hf_orr
      have hf_op : f52 op = eI g 6 (upd pt v v51) := by rw [ef52]; exact va_up_self _ _ _
      replace hFr : Fr f f52 [op, oh, orr] := by rw [ef52]; exact hFr.up (by simp)
      refine lv_aload_n hx hb dX6_guess_53 rfl (lv_at hl 2 rfl) ?_
      refine lv_dup hx hb dX6_guess_54 rfl ?_
      refine pg_getN (C := RX5) (T := TX5) (N := 6) hx hb hts hi_X5 hown hK hP hL_oh hf_oh rfl 1 (by decide) (hK.nest 8 rfl) (fun _ h9 => h9) rfl dX6_guess_55 ?_
      refine lv_iload hx hb dX6_guess_58 (lv_at hl 0 rfl) ?_
      refine lv_if_eq (tgt := 67) hx hb dX6_guess_60 (by decide) (fun _ => ?_) (fun h => absurd (by decide) h)
      refine lv_iconst (v := 0) hx hb dX6_guess_67 (by decide) ?_
      refine lv_iadd hx hb dX6_guess_68 ?_
      refine lv_topi (fun v68 ev68 => ?_)
      refine pg_putN (ty := .int) (C := RX5) (T := TX5) (N := 6) hx hb hts hi_X5 tyX5 tyX5_ok nmX5 hown hK hP hN hA hS hL_oh hf_oh rfl 1 (by decide) (hK.nest 8 rfl) (fun _ h9 => h9) rfl (by decide +kernel) rfl rfl (Nat.le_of_ble_eq_true rfl) dX6_guess_69 (fun H locs hP hS => ?_)
      obtain ⟨f69, ef69⟩ : ∃ z, z = va_up f52 oh (eO 6 [.int (nI d), .int v68, .ref op, .ref oc, .ref orr, .ref ow]) := ⟨_, rfl⟩
      replace hP : PP g L f69 H := by rw [ef69]; exact hP
      have hf_mh : f69 mh = eO 7 [.int th, .ref mg, .ref mr, .int (nI n), .ref mk, .ref mn, .int (nI nv), .ref ms, .ref nw, .ref ah] := by rw [ef69, va_up_ne _ _ n_mh_oh]; exact hf_mh
      have hf_ms : f69 ms = eI g 8 sd := by rw [ef69, va_up_ne _ _ n_ms_oh]; exact hf_ms
      have hf_ow : f69 ow = eI g 48 wt := by rw [ef69, va_up_ne _ _ n_oh_ow.symm]; exact hf_ow
      have hf_op : f69 op = eI g 6 (upd pt v v51) := by rw [ef69, va_up_ne _ _ n_oh_op.symm]; exact hf_op
      have hf_orr : f69 orr = eI g 6 ro := by rw [ef69, va_up_ne _ _ n_oh_orr.symm]; exact hf_orr
      have hf_oh : f69 oh = eO 6 [.int (nI d), .int v68, .ref op, .ref oc, .ref orr, .ref ow] := by rw [ef69]; exact va_up_self _ _ _
      replace hFr : Fr f f69 [op, oh, orr] := by rw [ef69]; exact hFr.up (by simp)
      refine lv_aload_n hx hb dX6_guess_72 rfl (lv_at hl 2 rfl) ?_
      refine pg_getN (C := RX5) (T := TX5) (N := 6) hx hb hts hi_X5 hown hK hP hL_oh hf_oh rfl 4 (by decide) (hK.nest 11 rfl) (fun _ h9 => h9) rfl dX6_guess_73 ?_
      refine lv_iload_n hx hb dX6_guess_76 rfl (lv_at hl 3 rfl) ?_
      refine lv_iload hx hb dX6_guess_77 (lv_at hl 0 rfl) ?_
      refine lv_if_eq (tgt := 93) hx hb dX6_guess_79 (by decide) (fun _ => ?_) (fun h => absurd (by decide) h)
      refine lv_iconst (v := 0) hx hb dX6_guess_93 (by decide) ?_
      refine pn_iast (j := v) hx hb hK hP hN hA hS hL_orr hf_orr rfl (by omega) (Nat.lt_of_lt_of_le (m := 100) (by omega) (by omega)) dX6_guess_94 (fun H locs hP hS => ?_)
      obtain ⟨f94, ef94⟩ : ∃ z, z = va_up f69 orr (eI g 6 (upd ro v 0)) := ⟨_, rfl⟩
      replace hP : PP g L f94 H := by rw [ef94]; exact hP
      have hf_mh : f94 mh = eO 7 [.int th, .ref mg, .ref mr, .int (nI n), .ref mk, .ref mn, .int (nI nv), .ref ms, .ref nw, .ref ah] := by rw [ef94, va_up_ne _ _ n_mh_orr]; exact hf_mh
      have hf_ms : f94 ms = eI g 8 sd := by rw [ef94, va_up_ne _ _ n_ms_orr]; exact hf_ms
      have hf_oh : f94 oh = eO 6 [.int (nI d), .int v68, .ref op, .ref oc, .ref orr, .ref ow] := by rw [ef94, va_up_ne _ _ n_oh_orr]; exact hf_oh
      have hf_ow : f94 ow = eI g 48 wt := by rw [ef94, va_up_ne _ _ n_ow_orr]; exact hf_ow
      have hf_op : f94 op = eI g 6 (upd pt v v51) := by rw [ef94, va_up_ne _ _ n_op_orr]; exact hf_op
      have hf_orr : f94 orr = eI g 6 (upd ro v 0) := by rw [ef94]; exact va_up_self _ _ _
      replace hFr : Fr f f94 [op, oh, orr] := by rw [ef94]; exact hFr.up (by simp)
      exact hend f94 _ _ _ _ (⟨by rw [hf_op, ev51, hh]; rfl, by rw [hf_oh, ev68, hh]; rfl, by rw [hf_orr, hh]; rfl, hFr⟩) hP hS dX6_guess_95
    · skip
      refine lv_iconst (v := 1) hx hb dX6_guess_19 (by decide) ?_
      refine lv_goto (tgt := 24) hx hb dX6_guess_20 (by decide) ?_
      refine lv_icmp_ne (tgt := 31) hx hb dX6_guess_24 (by decide) (fun h => absurd h (by decide)) (fun _ => ?_)
      refine lv_iconst (v := 1) hx hb dX6_guess_27 (by decide) ?_
      refine lv_goto (tgt := 32) hx hb dX6_guess_28 (by decide) ?_
      refine lv_istore (lv' := [(4, .int 1), (0, .ref mh), (1, .ref oh), (2, .int (nI v)), (3, .int w)]) hx hb dX6_guess_32 hl (by decide) rfl (fun ls hl => ?_)
      have hh : mhit (leanN sd wt v n) w = true := by unfold mhit; rw [decide_eq_true (Int32.not_le.mp c6), decide_eq_true c16]; rfl
      refine lv_aload_n hx hb dX6_guess_34 rfl (lv_at hl 2 rfl) ?_
      refine pg_getN (C := RX5) (T := TX5) (N := 6) hx hb hts hi_X5 hown hK hP hL_oh hf_oh rfl 2 (by decide) (hK.nest 9 rfl) (fun _ h9 => h9) rfl dX6_guess_35 ?_
      refine lv_iload_n hx hb dX6_guess_38 rfl (lv_at hl 3 rfl) ?_
      refine lv_dup2_11 hx hb dX6_guess_39 rfl rfl ?_
      refine pn_iald (j := v) hx hb hK hP hL_op hf_op rfl (by omega) (Nat.lt_of_lt_of_le (m := 100) (by omega) (by omega)) dX6_guess_40 ?_
      refine lv_iload hx hb dX6_guess_41 (lv_at hl 0 rfl) ?_
      refine lv_if_eq (tgt := 50) hx hb dX6_guess_43 (by decide) (fun h => absurd h (by decide)) (fun _ => ?_)
      refine lv_iconst (v := 1) hx hb dX6_guess_46 (by decide) ?_
      refine lv_goto (tgt := 51) hx hb dX6_guess_47 (by decide) ?_
      refine lv_iadd hx hb dX6_guess_51 ?_
      refine lv_topi (fun v51 ev51 => ?_)
      refine pn_iast (j := v) hx hb hK hP hN hA hS hL_op hf_op rfl (by omega) (Nat.lt_of_lt_of_le (m := 100) (by omega) (by omega)) dX6_guess_52 (fun H locs hP hS => ?_)
      obtain ⟨f52, ef52⟩ : ∃ z, z = va_up f op (eI g 6 (upd pt v v51)) := ⟨_, rfl⟩
      replace hP : PP g L f52 H := by rw [ef52]; exact hP
      have hf_mh : f52 mh = eO 7 [.int th, .ref mg, .ref mr, .int (nI n), .ref mk, .ref mn, .int (nI nv), .ref ms, .ref nw, .ref ah] := by rw [ef52, va_up_ne _ _ n_mh_op]; exact hf_mh
      have hf_ms : f52 ms = eI g 8 sd := by rw [ef52, va_up_ne _ _ n_ms_op]; exact hf_ms
      have hf_oh : f52 oh = eO 6 [.int (nI d), .int ht, .ref op, .ref oc, .ref orr, .ref ow] := by rw [ef52, va_up_ne _ _ n_oh_op]; exact hf_oh
      have hf_ow : f52 ow = eI g 48 wt := by rw [ef52, va_up_ne _ _ n_ow_op]; exact hf_ow
      have hf_orr : f52 orr = eI g 6 ro := by rw [ef52, va_up_ne _ _ n_op_orr.symm]; exact hf_orr
      have hf_op : f52 op = eI g 6 (upd pt v v51) := by rw [ef52]; exact va_up_self _ _ _
      replace hFr : Fr f f52 [op, oh, orr] := by rw [ef52]; exact hFr.up (by simp)
      refine lv_aload_n hx hb dX6_guess_53 rfl (lv_at hl 2 rfl) ?_
      refine lv_dup hx hb dX6_guess_54 rfl ?_
      refine pg_getN (C := RX5) (T := TX5) (N := 6) hx hb hts hi_X5 hown hK hP hL_oh hf_oh rfl 1 (by decide) (hK.nest 8 rfl) (fun _ h9 => h9) rfl dX6_guess_55 ?_
      refine lv_iload hx hb dX6_guess_58 (lv_at hl 0 rfl) ?_
      refine lv_if_eq (tgt := 67) hx hb dX6_guess_60 (by decide) (fun h => absurd h (by decide)) (fun _ => ?_)
      refine lv_iconst (v := 1) hx hb dX6_guess_63 (by decide) ?_
      refine lv_goto (tgt := 68) hx hb dX6_guess_64 (by decide) ?_
      refine lv_iadd hx hb dX6_guess_68 ?_
      refine lv_topi (fun v68 ev68 => ?_)
      refine pg_putN (ty := .int) (C := RX5) (T := TX5) (N := 6) hx hb hts hi_X5 tyX5 tyX5_ok nmX5 hown hK hP hN hA hS hL_oh hf_oh rfl 1 (by decide) (hK.nest 8 rfl) (fun _ h9 => h9) rfl (by decide +kernel) rfl rfl (Nat.le_of_ble_eq_true rfl) dX6_guess_69 (fun H locs hP hS => ?_)
      obtain ⟨f69, ef69⟩ : ∃ z, z = va_up f52 oh (eO 6 [.int (nI d), .int v68, .ref op, .ref oc, .ref orr, .ref ow]) := ⟨_, rfl⟩
      replace hP : PP g L f69 H := by rw [ef69]; exact hP
      have hf_mh : f69 mh = eO 7 [.int th, .ref mg, .ref mr, .int (nI n), .ref mk, .ref mn, .int (nI nv), .ref ms, .ref nw, .ref ah] := by rw [ef69, va_up_ne _ _ n_mh_oh]; exact hf_mh
      have hf_ms : f69 ms = eI g 8 sd := by rw [ef69, va_up_ne _ _ n_ms_oh]; exact hf_ms
      have hf_ow : f69 ow = eI g 48 wt := by rw [ef69, va_up_ne _ _ n_oh_ow.symm]; exact hf_ow
      have hf_op : f69 op = eI g 6 (upd pt v v51) := by rw [ef69, va_up_ne _ _ n_oh_op.symm]; exact hf_op
      have hf_orr : f69 orr = eI g 6 ro := by rw [ef69, va_up_ne _ _ n_oh_orr.symm]; exact hf_orr
      have hf_oh : f69 oh = eO 6 [.int (nI d), .int v68, .ref op, .ref oc, .ref orr, .ref ow] := by rw [ef69]; exact va_up_self _ _ _
      replace hFr : Fr f f69 [op, oh, orr] := by rw [ef69]; exact hFr.up (by simp)
      refine lv_aload_n hx hb dX6_guess_72 rfl (lv_at hl 2 rfl) ?_
      refine pg_getN (C := RX5) (T := TX5) (N := 6) hx hb hts hi_X5 hown hK hP hL_oh hf_oh rfl 4 (by decide) (hK.nest 11 rfl) (fun _ h9 => h9) rfl dX6_guess_73 ?_
      refine lv_iload_n hx hb dX6_guess_76 rfl (lv_at hl 3 rfl) ?_
      refine lv_iload hx hb dX6_guess_77 (lv_at hl 0 rfl) ?_
      refine lv_if_eq (tgt := 93) hx hb dX6_guess_79 (by decide) (fun h => absurd h (by decide)) (fun _ => ?_)
      refine lv_aload_n hx hb dX6_guess_82 rfl (lv_at hl 2 rfl) ?_
      refine pg_getN (C := RX5) (T := TX5) (N := 6) hx hb hts hi_X5 hown hK hP hL_oh hf_oh rfl 4 (by decide) (hK.nest 11 rfl) (fun _ h9 => h9) rfl dX6_guess_83 ?_
      refine lv_iload_n hx hb dX6_guess_86 rfl (lv_at hl 3 rfl) ?_
      refine pn_iald (j := v) hx hb hK hP hL_orr hf_orr rfl (by omega) (Nat.lt_of_lt_of_le (m := 100) (by omega) (by omega)) dX6_guess_87 ?_
      refine lv_iconst (v := 1) hx hb dX6_guess_88 (by decide) ?_
      refine lv_iadd hx hb dX6_guess_89 ?_
      refine lv_topi (fun v89 ev89 => ?_)
      refine lv_goto (tgt := 94) hx hb dX6_guess_90 (by decide) ?_
      refine pn_iast (j := v) hx hb hK hP hN hA hS hL_orr hf_orr rfl (by omega) (Nat.lt_of_lt_of_le (m := 100) (by omega) (by omega)) dX6_guess_94 (fun H locs hP hS => ?_)
      obtain ⟨f94, ef94⟩ : ∃ z, z = va_up f69 orr (eI g 6 (upd ro v v89)) := ⟨_, rfl⟩
      replace hP : PP g L f94 H := by rw [ef94]; exact hP
      have hf_mh : f94 mh = eO 7 [.int th, .ref mg, .ref mr, .int (nI n), .ref mk, .ref mn, .int (nI nv), .ref ms, .ref nw, .ref ah] := by rw [ef94, va_up_ne _ _ n_mh_orr]; exact hf_mh
      have hf_ms : f94 ms = eI g 8 sd := by rw [ef94, va_up_ne _ _ n_ms_orr]; exact hf_ms
      have hf_oh : f94 oh = eO 6 [.int (nI d), .int v68, .ref op, .ref oc, .ref orr, .ref ow] := by rw [ef94, va_up_ne _ _ n_oh_orr]; exact hf_oh
      have hf_ow : f94 ow = eI g 48 wt := by rw [ef94, va_up_ne _ _ n_ow_orr]; exact hf_ow
      have hf_op : f94 op = eI g 6 (upd pt v v51) := by rw [ef94, va_up_ne _ _ n_op_orr]; exact hf_op
      have hf_orr : f94 orr = eI g 6 (upd ro v v89) := by rw [ef94]; exact va_up_self _ _ _
      replace hFr : Fr f f94 [op, oh, orr] := by rw [ef94]; exact hFr.up (by simp)
      exact hend f94 _ _ _ _ (⟨by rw [hf_op, ev51, hh]; rfl, by rw [hf_oh, ev68, hh]; rfl, by rw [hf_orr, hh]; rw [ev89]; rfl, hFr⟩) hP hS dX6_guess_95

set_option maxHeartbeats 4000000 in
set_option maxRecDepth 100000 in
theorem m_X6_learn (l : Launch) (g : GG) (L : List Nat) (f : Nat → va_E) (sz : Nat) (hN : L.Nodup) (mh mg mr mk mn ms nw ah n nv : Nat) (th : Int32)(oh op oc orr ow d : Nat) (ht : Int32) (sd wt : Nat → Int32) (v : Nat) (w : Int32) (hL_mh : mh ∈ L) (hf_mh : f mh = eO 7 [.int th, .ref mg, .ref mr, .int (nI n), .ref mk, .ref mn, .int (nI nv), .ref ms, .ref nw, .ref ah]) (hL_ms : ms ∈ L) (hf_ms : f ms = eI g 8 sd) (hL_oh : oh ∈ L) (hf_oh : f oh = eO 6 [.int (nI d), .int ht, .ref op, .ref oc, .ref orr, .ref ow]) (hL_ow : ow ∈ L) (hf_ow : f ow = eI g 48 wt) (hn : n ≤ 8) (hv : v < 6) : RV l g yX6_learn wsX6_learn 1 21 L f sz [.ref mh, .ref oh, .int (nI v), .int w] (fun f2 => f2 ow = eI g 48 (rowN (fun j x => mlearn1 w (sd j) x) wt v n) ∧ Fr f f2 [ow]) := by
  refine RV.start (cc := cX6_learn) (maxL := 6) (by decide +kernel) rfl (by simp [lg_sl, Value.category]) ?_
  intro p e s m args below meth c Q ls A hx hb hml hts hown hA hA2 hS hP hK hl hend
  have hl : lv_has ls 6 [(0, .ref mh), (1, .ref oh), (2, .int (nI v)), (3, .int w)] := hl
  have hi_X5 : ∀ w ∈ u_ws RX5 TX5 6, w ∈ wsX6_learn := by decide +kernel
  have hi_X6 : ∀ w ∈ u_ws RX6 TX6 10, w ∈ wsX6_learn := by decide +kernel
  have hFr : Fr f f [ow] := Fr.rf
  have n_mh_ms : mh ≠ ms := ne_e hf_mh hf_ms (by simp)
  have n_mh_oh : mh ≠ oh := ne_e hf_mh hf_oh (by simp)
  have n_mh_ow : mh ≠ ow := ne_e hf_mh hf_ow (by simp)
  have n_ms_oh : ms ≠ oh := ne_e hf_ms hf_oh (by simp)
  have n_ms_ow : ms ≠ ow := ne_e hf_ms hf_ow (by simp)
  have n_oh_ow : oh ≠ ow := ne_e hf_oh hf_ow (by simp)
  have h0f_mh := hf_mh
  have h0f_ms := hf_ms
  have h0f_oh := hf_oh
  have h0f_ow := hf_ow
  refine lv_iconst (v := 0) hx hb dX6_learn_0 (by decide) ?_
  refine lv_istore (lv' := [(4, .int 0), (0, .ref mh), (1, .ref oh), (2, .int (nI v)), (3, .int w)]) hx hb dX6_learn_1 hl (by decide) rfl (fun ls hl => ?_)
  have hf_ow : f ow = eI g 48 (rowN (fun j x => mlearn1 w (sd j) x) wt v 0) := by rw [hf_ow, rowN_0]
  have K3 : ∀ (n3 : Nat) (i : Nat) (f3 : Nat → va_E) (H : Heap) (locs : List Loc), n - i < n3 → i ≤ n → f3 ow = eI g 48 (rowN (fun j x => mlearn1 w (sd j) x) wt v i) → Fr f f3 [ow] → PP g L f3 H → va_S A s.heap H locs → ∀ (ls : Array Slot), lv_has ls 6 [(4, .int (nI i)), (3, .int w), (2, .int (nI v)), (1, .ref oh), (0, .ref mh)] → W p l e ({ frames := 1, cells := 0, slots := 0, locals := 21 } : Room) s m args below meth c H locs 0 0 Q (F0 m 3 ls []) := by
    intro n3
    induction n3 with
    | zero => intros; omega
    | succ n3 ih3 =>
      intro i f3 H locs hm3 hi hq3_0 hFr hP hS ls hl
      have hf_mh : f3 mh = eO 7 [.int th, .ref mg, .ref mr, .int (nI n), .ref mk, .ref mn, .int (nI nv), .ref ms, .ref nw, .ref ah] := hFr.get h0f_mh (nm_c n_mh_ow (List.not_mem_nil))
      have hf_ms : f3 ms = eI g 8 sd := hFr.get h0f_ms (nm_c n_ms_ow (List.not_mem_nil))
      have hf_oh : f3 oh = eO 6 [.int (nI d), .int ht, .ref op, .ref oc, .ref orr, .ref ow] := hFr.get h0f_oh (nm_c n_oh_ow (List.not_mem_nil))
      have hf_ow : f3 ow = eI g 48 (rowN (fun j x => mlearn1 w (sd j) x) wt v i) := hq3_0
      refine lv_iload hx hb dX6_learn_3 (lv_at hl 0 rfl) ?_
      refine lv_aload_n hx hb dX6_learn_5 rfl (lv_at hl 4 rfl) ?_
      refine pg_get (C := RX6) (T := TX6) (N := 10) hx hb hts hi_X6 hown hK hP hL_mh hf_mh rfl 3 (by decide) (hts (.fieldLink RX6 45 "BarometerLeagueModel" "signs" "I") (by decide +kernel)) (fun _ h9 => h9) rfl dX6_learn_6 ?_
      refine lv_icmp_ge (tgt := 81) hx hb dX6_learn_9 (by decide) (fun c9 => ?_) (fun c9 => ?_)
      · skip
        have c9 : n ≤ i := (nI_leI (a := n) (b := i) (by omega) (by omega)).mp (show nI n ≤ nI i from c9)
        exact hend f3 _ _ _ _ (⟨by rw [hf_ow, show i = n from (by omega)], hFr⟩) hP hS dX6_learn_81
      · skip
        have c9 : ¬ n ≤ i := fun h => c9 ((nI_leI (a := n) (b := i) (by omega) (by omega)).mpr h)
        refine lv_bipush (v := 8) hx hb dX6_learn_12 (by decide) ?_
        refine lv_iload_n hx hb dX6_learn_14 rfl (lv_at hl 2 rfl) ?_
        refine lv_imul hx hb dX6_learn_15 ?_
        refine lv_topi (fun v15 ev15 => ?_)
        refine lv_iload hx hb dX6_learn_16 (lv_at hl 0 rfl) ?_
        refine lv_iadd hx hb dX6_learn_18 ?_
        refine lv_topi (fun v18 ev18 => ?_)
        refine lv_istore (lv' := [(5, .int v18), (4, .int (nI i)), (3, .int w), (2, .int (nI v)), (1, .ref oh), (0, .ref mh)]) hx hb dX6_learn_19 hl (by decide) rfl (fun ls hl => ?_)
        refine lv_aload_n hx hb dX6_learn_21 rfl (lv_at hl 4 rfl) ?_
        refine pg_getN (C := RX5) (T := TX5) (N := 6) hx hb hts hi_X5 hown hK hP hL_oh hf_oh rfl 5 (by decide) (hK.nest 12 rfl) (fun _ h9 => h9) rfl dX6_learn_22 ?_
        refine lv_iload hx hb dX6_learn_25 (lv_at hl 0 rfl) ?_
        refine lv_aload_n hx hb dX6_learn_27 rfl (lv_at hl 5 rfl) ?_
        refine pg_get (C := RX6) (T := TX6) (N := 10) hx hb hts hi_X6 hown hK hP hL_mh hf_mh rfl 7 (by decide) (hts (.fieldLink RX6 22 "BarometerLeagueModel" "said" "[I") (by decide +kernel)) (fun _ h9 => h9) rfl dX6_learn_28 ?_
        refine lv_iload hx hb dX6_learn_31 (lv_at hl 1 rfl) ?_
        refine pn_iald (j := i) hx hb hK hP hL_ms hf_ms rfl (by omega) (Nat.lt_of_lt_of_le (m := 100) (by omega) (by omega)) dX6_learn_33 ?_
        refine lv_iload_n hx hb dX6_learn_34 rfl (lv_at hl 2 rfl) ?_
        refine lv_icmp_ne (tgt := 55) hx hb dX6_learn_35 (by decide) (fun c35 => ?_) (fun c35 => ?_)
        · skip
          refine lv_aload_n hx hb dX6_learn_55 rfl (lv_at hl 4 rfl) ?_
          refine pg_getN (C := RX5) (T := TX5) (N := 6) hx hb hts hi_X5 hown hK hP hL_oh hf_oh rfl 5 (by decide) (hK.nest 12 rfl) (fun _ h9 => h9) rfl dX6_learn_56 ?_
          refine lv_iload hx hb dX6_learn_59 (lv_at hl 0 rfl) ?_
          refine pn_iald (j := 8 * v + i) hx hb hK hP hL_ow hf_ow (ev18.trans (nat_add (ev15.trans (nat_mul rfl rfl)) rfl)) (by omega) (Nat.lt_of_lt_of_le (m := 100) (by omega) (by omega)) dX6_learn_61 ?_
          refine lv_aload_n hx hb dX6_learn_62 rfl (lv_at hl 4 rfl) ?_
          refine pg_getN (C := RX5) (T := TX5) (N := 6) hx hb hts hi_X5 hown hK hP hL_oh hf_oh rfl 5 (by decide) (hK.nest 12 rfl) (fun _ h9 => h9) rfl dX6_learn_63 ?_
          refine lv_iload hx hb dX6_learn_66 (lv_at hl 0 rfl) ?_
          refine pn_iald (j := 8 * v + i) hx hb hK hP hL_ow hf_ow (ev18.trans (nat_add (ev15.trans (nat_mul rfl rfl)) rfl)) (by omega) (Nat.lt_of_lt_of_le (m := 100) (by omega) (by omega)) dX6_learn_68 ?_
          refine lv_iconst (v := 3) hx hb dX6_learn_69 (by decide) ?_
          refine lv_iadd hx hb dX6_learn_70 ?_
          refine lv_topi (fun v70 ev70 => ?_)
          refine lv_iconst (v := 4) hx hb dX6_learn_71 (by decide) ?_
          refine lv_idiv hx hb dX6_learn_72 (by decide) ?_
          refine lv_topi (fun v72 ev72 => ?_)
          refine lv_isub hx hb dX6_learn_73 ?_
          refine lv_topi (fun v73 ev73 => ?_)
          refine pn_iast (j := 8 * v + i) hx hb hK hP hN hA hS hL_ow hf_ow (ev18.trans (nat_add (ev15.trans (nat_mul rfl rfl)) rfl)) (by omega) (Nat.lt_of_lt_of_le (m := 100) (by omega) (by omega)) dX6_learn_74 (fun H locs hP hS => ?_)
          obtain ⟨f74, ef74⟩ : ∃ z, z = va_up f3 ow (eI g 48 (upd (rowN (fun j x => mlearn1 w (sd j) x) wt v i) (8 * v + i) v73)) := ⟨_, rfl⟩
          replace hP : PP g L f74 H := by rw [ef74]; exact hP
          have hf_mh : f74 mh = eO 7 [.int th, .ref mg, .ref mr, .int (nI n), .ref mk, .ref mn, .int (nI nv), .ref ms, .ref nw, .ref ah] := by rw [ef74, va_up_ne _ _ n_mh_ow]; exact hf_mh
          have hf_ms : f74 ms = eI g 8 sd := by rw [ef74, va_up_ne _ _ n_ms_ow]; exact hf_ms
          have hf_oh : f74 oh = eO 6 [.int (nI d), .int ht, .ref op, .ref oc, .ref orr, .ref ow] := by rw [ef74, va_up_ne _ _ n_oh_ow]; exact hf_oh
          have hf_ow : f74 ow = eI g 48 (upd (rowN (fun j x => mlearn1 w (sd j) x) wt v i) (8 * v + i) v73) := by rw [ef74]; exact va_up_self _ _ _
          replace hFr : Fr f f74 [ow] := by rw [ef74]; exact hFr.up (by simp)
          refine lv_iinc (v := nI (i + 1)) (lv' := [(4, .int (nI (i + 1))), (5, .int v18), (3, .int w), (2, .int (nI v)), (1, .ref oh), (0, .ref mh)]) hx hb dX6_learn_75 hl (k := 1) rfl (nI_1 _) (by decide) rfl (fun ls hl => ?_)
          refine lv_goto (tgt := 3) hx hb dX6_learn_78 (by decide) ?_
          have hf_ow : f74 ow = eI g 48 (rowN (fun j x => mlearn1 w (sd j) x) wt v (i + 1)) := by rw [hf_ow, rowN_s (F := (fun j x => mlearn1 w (sd j) x)) (by omega) (by rw [ev73, ev72, ev70, rowN_at _ _ _ _ (by omega)]; unfold mlearn1; rw [if_neg c35])]
          exact ih3 (i + 1) f74 H locs (by omega) (by omega) hf_ow hFr hP hS ls (lv_sub hl [0, 2, 3, 4, 5] rfl)
        · skip
          refine lv_bipush (v := 100) hx hb dX6_learn_38 (by decide) ?_
          refine lv_aload_n hx hb dX6_learn_40 rfl (lv_at hl 4 rfl) ?_
          refine pg_getN (C := RX5) (T := TX5) (N := 6) hx hb hts hi_X5 hown hK hP hL_oh hf_oh rfl 5 (by decide) (hK.nest 12 rfl) (fun _ h9 => h9) rfl dX6_learn_41 ?_
          refine lv_iload hx hb dX6_learn_44 (lv_at hl 0 rfl) ?_
          refine pn_iald (j := 8 * v + i) hx hb hK hP hL_ow hf_ow (ev18.trans (nat_add (ev15.trans (nat_mul rfl rfl)) rfl)) (by omega) (Nat.lt_of_lt_of_le (m := 100) (by omega) (by omega)) dX6_learn_46 ?_
          refine lv_iconst (v := 1) hx hb dX6_learn_47 (by decide) ?_
          refine lv_iadd hx hb dX6_learn_48 ?_
          refine lv_topi (fun v48 ev48 => ?_)
          refine va_mmin hx hb (hml.trans hl.1.symm) hown (hts (.methodLink RX6 75 Lib.Math.min.name) (by decide +kernel)) (hts (.static Lib.Math.min.name) (by decide +kernel)) (hts (.initialized "java/lang/Math") (by decide +kernel)) (hts (.code Lib.Math.min.name Lib.Math.min.code 2 (some .int)) (by decide +kernel)) (Nat.le_of_ble_eq_true rfl) (Nat.le_of_ble_eq_true rfl) (Nat.zero_le _) (Nat.zero_le _) dX6_learn_49 ?_
          refine lv_topi (fun v49 ev49 => ?_)
          refine lv_goto (tgt := 74) hx hb dX6_learn_52 (by decide) ?_
          refine pn_iast (j := 8 * v + i) hx hb hK hP hN hA hS hL_ow hf_ow (ev18.trans (nat_add (ev15.trans (nat_mul rfl rfl)) rfl)) (by omega) (Nat.lt_of_lt_of_le (m := 100) (by omega) (by omega)) dX6_learn_74 (fun H locs hP hS => ?_)
          obtain ⟨f74, ef74⟩ : ∃ z, z = va_up f3 ow (eI g 48 (upd (rowN (fun j x => mlearn1 w (sd j) x) wt v i) (8 * v + i) v49)) := ⟨_, rfl⟩
          replace hP : PP g L f74 H := by rw [ef74]; exact hP
          have hf_mh : f74 mh = eO 7 [.int th, .ref mg, .ref mr, .int (nI n), .ref mk, .ref mn, .int (nI nv), .ref ms, .ref nw, .ref ah] := by rw [ef74, va_up_ne _ _ n_mh_ow]; exact hf_mh
          have hf_ms : f74 ms = eI g 8 sd := by rw [ef74, va_up_ne _ _ n_ms_ow]; exact hf_ms
          have hf_oh : f74 oh = eO 6 [.int (nI d), .int ht, .ref op, .ref oc, .ref orr, .ref ow] := by rw [ef74, va_up_ne _ _ n_oh_ow]; exact hf_oh
          have hf_ow : f74 ow = eI g 48 (upd (rowN (fun j x => mlearn1 w (sd j) x) wt v i) (8 * v + i) v49) := by rw [ef74]; exact va_up_self _ _ _
          replace hFr : Fr f f74 [ow] := by rw [ef74]; exact hFr.up (by simp)
          refine lv_iinc (v := nI (i + 1)) (lv' := [(4, .int (nI (i + 1))), (5, .int v18), (3, .int w), (2, .int (nI v)), (1, .ref oh), (0, .ref mh)]) hx hb dX6_learn_75 hl (k := 1) rfl (nI_1 _) (by decide) rfl (fun ls hl => ?_)
          refine lv_goto (tgt := 3) hx hb dX6_learn_78 (by decide) ?_
          have hf_ow : f74 ow = eI g 48 (rowN (fun j x => mlearn1 w (sd j) x) wt v (i + 1)) := by rw [hf_ow, rowN_s (F := (fun j x => mlearn1 w (sd j) x)) (by omega) (by rw [ev49, ev48, rowN_at _ _ _ _ (by omega)]; unfold mlearn1; rw [if_pos c35])]
          exact ih3 (i + 1) f74 H locs (by omega) (by omega) hf_ow hFr hP hS ls (lv_sub hl [0, 2, 3, 4, 5] rfl)
  exact K3 _ 0 f _ _ (Nat.lt_succ_self _) (Nat.zero_le _) hf_ow hFr hP hS ls (lv_sub hl [0, 4, 3, 2, 1] rfl)

set_option maxHeartbeats 4000000 in
set_option maxRecDepth 100000 in
theorem m_X6_sell (l : Launch) (g : GG) (L : List Nat) (f : Nat → va_E) (sz : Nat) (hN : L.Nodup) (oh op oc orr ow d : Nat) (ht : Int32) (co ro : Nat → Int32) (v : Nat) (hL_oh : oh ∈ L) (hf_oh : f oh = eO 6 [.int (nI d), .int ht, .ref op, .ref oc, .ref orr, .ref ow]) (hL_oc : oc ∈ L) (hf_oc : f oc = eI g 6 co) (hL_orr : orr ∈ L) (hf_orr : f orr = eI g 6 ro) (n_oc_orr : oc ≠ orr) (hv : v < 6) : RV l g yX6_sell wsX6_sell 1 21 L f sz [.ref oh, .int (nI v)] (fun f2 => f2 oc = eI g 6 (upd co v (msell1 (ro v) (co v))) ∧ Fr f f2 [oc]) := by
  refine RV.start (cc := cX6_sell) (maxL := 2) (by decide +kernel) rfl (by simp [lg_sl, Value.category]) ?_
  intro p e s m args below meth c Q ls A hx hb hml hts hown hA hA2 hS hP hK hl hend
  have hl : lv_has ls 2 [(0, .ref oh), (1, .int (nI v))] := hl
  have hi_X5 : ∀ w ∈ u_ws RX5 TX5 6, w ∈ wsX6_sell := by decide +kernel
  have hFr : Fr f f [oc] := Fr.rf
  have n_oh_oc : oh ≠ oc := ne_e hf_oh hf_oc (by simp)
  have n_oh_orr : oh ≠ orr := ne_e hf_oh hf_orr (by simp)
  have h0f_oh := hf_oh
  have h0f_oc := hf_oc
  have h0f_orr := hf_orr
  refine lv_aload_n hx hb dX6_sell_0 rfl (lv_at hl 0 rfl) ?_
  refine pg_getN (C := RX5) (T := TX5) (N := 6) hx hb hts hi_X5 hown hK hP hL_oh hf_oh rfl 4 (by decide) (hK.nest 11 rfl) (fun _ h9 => h9) rfl dX6_sell_1 ?_
  refine lv_iload_n hx hb dX6_sell_4 rfl (lv_at hl 1 rfl) ?_
  refine pn_iald (j := v) hx hb hK hP hL_orr hf_orr rfl (by omega) (Nat.lt_of_lt_of_le (m := 100) (by omega) (by omega)) dX6_sell_5 ?_
  refine lv_if_le (tgt := 31) hx hb dX6_sell_6 (by decide) (fun c6 => ?_) (fun c6 => ?_)
  · skip
    refine lv_aload_n hx hb dX6_sell_31 rfl (lv_at hl 0 rfl) ?_
    refine pg_getN (C := RX5) (T := TX5) (N := 6) hx hb hts hi_X5 hown hK hP hL_oh hf_oh rfl 3 (by decide) (hK.nest 10 rfl) (fun _ h9 => h9) rfl dX6_sell_32 ?_
    refine lv_iload_n hx hb dX6_sell_35 rfl (lv_at hl 1 rfl) ?_
    refine lv_iconst (v := 0) hx hb dX6_sell_36 (by decide) ?_
    refine lv_aload_n hx hb dX6_sell_37 rfl (lv_at hl 0 rfl) ?_
    refine pg_getN (C := RX5) (T := TX5) (N := 6) hx hb hts hi_X5 hown hK hP hL_oh hf_oh rfl 3 (by decide) (hK.nest 10 rfl) (fun _ h9 => h9) rfl dX6_sell_38 ?_
    refine lv_iload_n hx hb dX6_sell_41 rfl (lv_at hl 1 rfl) ?_
    refine pn_iald (j := v) hx hb hK hP hL_oc hf_oc rfl (by omega) (Nat.lt_of_lt_of_le (m := 100) (by omega) (by omega)) dX6_sell_42 ?_
    refine lv_iconst (v := 1) hx hb dX6_sell_43 (by decide) ?_
    refine lv_isub hx hb dX6_sell_44 ?_
    refine lv_topi (fun v44 ev44 => ?_)
    refine va_mmax hx hb (hml.trans hl.1.symm) hown (hts (.methodLink RX6 81 Lib.Math.max.name) (by decide +kernel)) (hts (.static Lib.Math.max.name) (by decide +kernel)) (hts (.initialized "java/lang/Math") (by decide +kernel)) (hts (.code Lib.Math.max.name Lib.Math.max.code 2 (some .int)) (by decide +kernel)) (Nat.le_of_ble_eq_true rfl) (Nat.le_of_ble_eq_true rfl) (Nat.zero_le _) (Nat.zero_le _) dX6_sell_45 ?_
    refine lv_topi (fun v45 ev45 => ?_)
    refine pn_iast (j := v) hx hb hK hP hN hA hS hL_oc hf_oc rfl (by omega) (Nat.lt_of_lt_of_le (m := 100) (by omega) (by omega)) dX6_sell_48 (fun H locs hP hS => ?_)
    obtain ⟨f48, ef48⟩ : ∃ z, z = va_up f oc (eI g 6 (upd co v v45)) := ⟨_, rfl⟩
    replace hP : PP g L f48 H := by rw [ef48]; exact hP
    have hf_oh : f48 oh = eO 6 [.int (nI d), .int ht, .ref op, .ref oc, .ref orr, .ref ow] := by rw [ef48, va_up_ne _ _ n_oh_oc]; exact hf_oh
    have hf_orr : f48 orr = eI g 6 ro := by rw [ef48, va_up_ne _ _ n_oc_orr.symm]; exact hf_orr
    have hf_oc : f48 oc = eI g 6 (upd co v v45) := by rw [ef48]; exact va_up_self _ _ _
    replace hFr : Fr f f48 [oc] := by rw [ef48]; exact hFr.up (by simp)
    exact hend f48 _ _ _ _ (⟨by rw [hf_oc, ev45, ev44]; unfold msell1; rw [if_pos c6], hFr⟩) hP hS dX6_sell_49
  · skip
    refine lv_aload_n hx hb dX6_sell_9 rfl (lv_at hl 0 rfl) ?_
    refine pg_getN (C := RX5) (T := TX5) (N := 6) hx hb hts hi_X5 hown hK hP hL_oh hf_oh rfl 3 (by decide) (hK.nest 10 rfl) (fun _ h9 => h9) rfl dX6_sell_10 ?_
    refine lv_iload_n hx hb dX6_sell_13 rfl (lv_at hl 1 rfl) ?_
    refine lv_dup2_11 hx hb dX6_sell_14 rfl rfl ?_
    refine pn_iald (j := v) hx hb hK hP hL_oc hf_oc rfl (by omega) (Nat.lt_of_lt_of_le (m := 100) (by omega) (by omega)) dX6_sell_15 ?_
    refine lv_iconst (v := 5) hx hb dX6_sell_16 (by decide) ?_
    refine lv_aload_n hx hb dX6_sell_17 rfl (lv_at hl 0 rfl) ?_
    refine pg_getN (C := RX5) (T := TX5) (N := 6) hx hb hts hi_X5 hown hK hP hL_oh hf_oh rfl 4 (by decide) (hK.nest 11 rfl) (fun _ h9 => h9) rfl dX6_sell_18 ?_
    refine lv_iload_n hx hb dX6_sell_21 rfl (lv_at hl 1 rfl) ?_
    refine pn_iald (j := v) hx hb hK hP hL_orr hf_orr rfl (by omega) (Nat.lt_of_lt_of_le (m := 100) (by omega) (by omega)) dX6_sell_22 ?_
    refine va_mmin hx hb (hml.trans hl.1.symm) hown (hts (.methodLink RX6 75 Lib.Math.min.name) (by decide +kernel)) (hts (.static Lib.Math.min.name) (by decide +kernel)) (hts (.initialized "java/lang/Math") (by decide +kernel)) (hts (.code Lib.Math.min.name Lib.Math.min.code 2 (some .int)) (by decide +kernel)) (Nat.le_of_ble_eq_true rfl) (Nat.le_of_ble_eq_true rfl) (Nat.zero_le _) (Nat.zero_le _) dX6_sell_23 ?_
    refine lv_topi (fun v23 ev23 => ?_)
    refine lv_iadd hx hb dX6_sell_26 ?_
    refine lv_topi (fun v26 ev26 => ?_)
    refine pn_iast (j := v) hx hb hK hP hN hA hS hL_oc hf_oc rfl (by omega) (Nat.lt_of_lt_of_le (m := 100) (by omega) (by omega)) dX6_sell_27 (fun H locs hP hS => ?_)
    obtain ⟨f27, ef27⟩ : ∃ z, z = va_up f oc (eI g 6 (upd co v v26)) := ⟨_, rfl⟩
    replace hP : PP g L f27 H := by rw [ef27]; exact hP
    have hf_oh : f27 oh = eO 6 [.int (nI d), .int ht, .ref op, .ref oc, .ref orr, .ref ow] := by rw [ef27, va_up_ne _ _ n_oh_oc]; exact hf_oh
    have hf_orr : f27 orr = eI g 6 ro := by rw [ef27, va_up_ne _ _ n_oc_orr.symm]; exact hf_orr
    have hf_oc : f27 oc = eI g 6 (upd co v v26) := by rw [ef27]; exact va_up_self _ _ _
    replace hFr : Fr f f27 [oc] := by rw [ef27]; exact hFr.up (by simp)
    refine lv_goto (tgt := 49) hx hb dX6_sell_28 (by decide) ?_
    exact hend f27 _ _ _ _ (⟨by rw [hf_oc, ev26, ev23]; unfold msell1; rw [if_neg c6], hFr⟩) hP hS dX6_sell_49

set_option maxHeartbeats 4000000 in
set_option maxRecDepth 100000 in
theorem m_X6_isBetter (l : Launch) (g : GG) (L : List Nat) (f : Nat → va_E) (oh op oc orr ow d : Nat) (ht : Int32) (pt co : Nat → Int32) (a b : Nat) (hL_oh : oh ∈ L) (hf_oh : f oh = eO 6 [.int (nI d), .int ht, .ref op, .ref oc, .ref orr, .ref ow]) (hL_op : op ∈ L) (hf_op : f op = eI g 6 pt) (hL_oc : oc ∈ L) (hf_oc : f oc = eI g 6 co) (ha : a < 6) (hb6 : b < 6) : RO l g yX6_isBetter wsX6_isBetter 0 0 L f [.ref oh, .int (nI a), .int (nI b)] (fun r => r = b2i (aheadB (pt a) (co a) (nI a) (pt b) (co b) (nI b))) := by
  refine RO.start (cc := cX6_isBetter) (maxL := 3) (ret := .boolean) (by decide +kernel) rfl (by simp [lg_sl, Value.category]) ?_
  intro p e s m args below meth c Q ls hx hb hml hts hown hP hK hl hend
  have hl : lv_has ls 3 [(0, .ref oh), (1, .int (nI a)), (2, .int (nI b))] := hl
  have hi_X5 : ∀ w ∈ u_ws RX5 TX5 6, w ∈ wsX6_isBetter := by decide +kernel
  have n_oh_op : oh ≠ op := ne_e hf_oh hf_op (by simp)
  have n_oh_oc : oh ≠ oc := ne_e hf_oh hf_oc (by simp)
  refine lv_aload_n hx hb dX6_isBetter_0 rfl (lv_at hl 0 rfl) ?_
  refine pg_getN (C := RX5) (T := TX5) (N := 6) hx hb hts hi_X5 hown hK hP hL_oh hf_oh rfl 2 (by decide) (hK.nest 9 rfl) (fun _ h9 => h9) rfl dX6_isBetter_1 ?_
  refine lv_iload_n hx hb dX6_isBetter_4 rfl (lv_at hl 1 rfl) ?_
  refine pn_iald (j := a) hx hb hK hP hL_op hf_op rfl (by omega) (Nat.lt_of_lt_of_le (m := 100) (by omega) (by omega)) dX6_isBetter_5 ?_
  refine lv_aload_n hx hb dX6_isBetter_6 rfl (lv_at hl 0 rfl) ?_
  refine pg_getN (C := RX5) (T := TX5) (N := 6) hx hb hts hi_X5 hown hK hP hL_oh hf_oh rfl 2 (by decide) (hK.nest 9 rfl) (fun _ h9 => h9) rfl dX6_isBetter_7 ?_
  refine lv_iload_n hx hb dX6_isBetter_10 rfl (lv_at hl 2 rfl) ?_
  refine pn_iald (j := b) hx hb hK hP hL_op hf_op rfl (by omega) (Nat.lt_of_lt_of_le (m := 100) (by omega) (by omega)) dX6_isBetter_11 ?_
  refine lv_icmp_eq (tgt := 36) hx hb dX6_isBetter_12 (by decide) (fun c12 => ?_) (fun c12 => ?_)
  · skip
    refine lv_aload_n hx hb dX6_isBetter_36 rfl (lv_at hl 0 rfl) ?_
    refine pg_getN (C := RX5) (T := TX5) (N := 6) hx hb hts hi_X5 hown hK hP hL_oh hf_oh rfl 3 (by decide) (hK.nest 10 rfl) (fun _ h9 => h9) rfl dX6_isBetter_37 ?_
    refine lv_iload_n hx hb dX6_isBetter_40 rfl (lv_at hl 1 rfl) ?_
    refine pn_iald (j := a) hx hb hK hP hL_oc hf_oc rfl (by omega) (Nat.lt_of_lt_of_le (m := 100) (by omega) (by omega)) dX6_isBetter_41 ?_
    refine lv_aload_n hx hb dX6_isBetter_42 rfl (lv_at hl 0 rfl) ?_
    refine pg_getN (C := RX5) (T := TX5) (N := 6) hx hb hts hi_X5 hown hK hP hL_oh hf_oh rfl 3 (by decide) (hK.nest 10 rfl) (fun _ h9 => h9) rfl dX6_isBetter_43 ?_
    refine lv_iload_n hx hb dX6_isBetter_46 rfl (lv_at hl 2 rfl) ?_
    refine pn_iald (j := b) hx hb hK hP hL_oc hf_oc rfl (by omega) (Nat.lt_of_lt_of_le (m := 100) (by omega) (by omega)) dX6_isBetter_47 ?_
    refine lv_icmp_eq (tgt := 74) hx hb dX6_isBetter_48 (by decide) (fun c48 => ?_) (fun c48 => ?_)
    · skip
      refine lv_iload_n hx hb dX6_isBetter_74 rfl (lv_at hl 1 rfl) ?_
      refine lv_iload_n hx hb dX6_isBetter_75 rfl (lv_at hl 2 rfl) ?_
      refine lv_icmp_ge (tgt := 83) hx hb dX6_isBetter_76 (by decide) (fun c76 => ?_) (fun c76 => ?_)
      · skip
        have c76 : b ≤ a := (nI_leI (a := b) (b := a) (by omega) (by omega)).mp (show nI b ≤ nI a from c76)
        refine lv_iconst (v := 0) hx hb dX6_isBetter_83 (by decide) ?_
        exact hend (0) _ _ (bf (ah3 c12 c48) (nI_nlt c76 (by omega))) rfl dX6_isBetter_84
      · skip
        have c76 : ¬ b ≤ a := fun h => c76 ((nI_leI (a := b) (b := a) (by omega) (by omega)).mpr h)
        refine lv_iconst (v := 1) hx hb dX6_isBetter_79 (by decide) ?_
        refine lv_goto (tgt := 84) hx hb dX6_isBetter_80 (by decide) ?_
        exact hend (1) _ _ (bt (ah3 c12 c48) (nI_lt (by omega) (by omega))) rfl dX6_isBetter_84
    · skip
      refine lv_aload_n hx hb dX6_isBetter_51 rfl (lv_at hl 0 rfl) ?_
      refine pg_getN (C := RX5) (T := TX5) (N := 6) hx hb hts hi_X5 hown hK hP hL_oh hf_oh rfl 3 (by decide) (hK.nest 10 rfl) (fun _ h9 => h9) rfl dX6_isBetter_52 ?_
      refine lv_iload_n hx hb dX6_isBetter_55 rfl (lv_at hl 1 rfl) ?_
      refine pn_iald (j := a) hx hb hK hP hL_oc hf_oc rfl (by omega) (Nat.lt_of_lt_of_le (m := 100) (by omega) (by omega)) dX6_isBetter_56 ?_
      refine lv_aload_n hx hb dX6_isBetter_57 rfl (lv_at hl 0 rfl) ?_
      refine pg_getN (C := RX5) (T := TX5) (N := 6) hx hb hts hi_X5 hown hK hP hL_oh hf_oh rfl 3 (by decide) (hK.nest 10 rfl) (fun _ h9 => h9) rfl dX6_isBetter_58 ?_
      refine lv_iload_n hx hb dX6_isBetter_61 rfl (lv_at hl 2 rfl) ?_
      refine pn_iald (j := b) hx hb hK hP hL_oc hf_oc rfl (by omega) (Nat.lt_of_lt_of_le (m := 100) (by omega) (by omega)) dX6_isBetter_62 ?_
      refine lv_icmp_le (tgt := 70) hx hb dX6_isBetter_63 (by decide) (fun c63 => ?_) (fun c63 => ?_)
      · skip
        refine lv_iconst (v := 0) hx hb dX6_isBetter_70 (by decide) ?_
        refine lv_goto (tgt := 84) hx hb dX6_isBetter_71 (by decide) ?_
        exact hend (0) _ _ (bf (ah2 c12 c48) (Int32.not_lt.mpr c63)) rfl dX6_isBetter_84
      · skip
        refine lv_iconst (v := 1) hx hb dX6_isBetter_66 (by decide) ?_
        refine lv_goto (tgt := 84) hx hb dX6_isBetter_67 (by decide) ?_
        exact hend (1) _ _ (bt (ah2 c12 c48) (Int32.not_le.mp c63)) rfl dX6_isBetter_84
  · skip
    refine lv_aload_n hx hb dX6_isBetter_15 rfl (lv_at hl 0 rfl) ?_
    refine pg_getN (C := RX5) (T := TX5) (N := 6) hx hb hts hi_X5 hown hK hP hL_oh hf_oh rfl 2 (by decide) (hK.nest 9 rfl) (fun _ h9 => h9) rfl dX6_isBetter_16 ?_
    refine lv_iload_n hx hb dX6_isBetter_19 rfl (lv_at hl 1 rfl) ?_
    refine pn_iald (j := a) hx hb hK hP hL_op hf_op rfl (by omega) (Nat.lt_of_lt_of_le (m := 100) (by omega) (by omega)) dX6_isBetter_20 ?_
    refine lv_aload_n hx hb dX6_isBetter_21 rfl (lv_at hl 0 rfl) ?_
    refine pg_getN (C := RX5) (T := TX5) (N := 6) hx hb hts hi_X5 hown hK hP hL_oh hf_oh rfl 2 (by decide) (hK.nest 9 rfl) (fun _ h9 => h9) rfl dX6_isBetter_22 ?_
    refine lv_iload_n hx hb dX6_isBetter_25 rfl (lv_at hl 2 rfl) ?_
    refine pn_iald (j := b) hx hb hK hP hL_op hf_op rfl (by omega) (Nat.lt_of_lt_of_le (m := 100) (by omega) (by omega)) dX6_isBetter_26 ?_
    refine lv_icmp_le (tgt := 34) hx hb dX6_isBetter_27 (by decide) (fun c27 => ?_) (fun c27 => ?_)
    · skip
      refine lv_iconst (v := 0) hx hb dX6_isBetter_34 (by decide) ?_
      exact hend (0) _ _ (bf (ah1 c12) (Int32.not_lt.mpr c27)) rfl dX6_isBetter_35
    · skip
      refine lv_iconst (v := 1) hx hb dX6_isBetter_30 (by decide) ?_
      refine lv_goto (tgt := 35) hx hb dX6_isBetter_31 (by decide) ?_
      exact hend (1) _ _ (bt (ah1 c12) (Int32.not_le.mp c27)) rfl dX6_isBetter_35

set_option maxHeartbeats 4000000 in
set_option maxRecDepth 100000 in
theorem m_X6_sumOf (l : Launch) (g : GG) (L : List Nat) (f : Nat → va_E) (mh mg mr mk mn ms nw ah n nv : Nat) (th : Int32) (q : Nat) (w : Nat → Int32) (hL_mh : mh ∈ L) (hf_mh : f mh = eO 7 [.int th, .ref mg, .ref mr, .int (nI n), .ref mk, .ref mn, .int (nI nv), .ref ms, .ref nw, .ref ah]) (hL_q : q ∈ L) (hf_q : f q = eI g 6 w) (hnv : nv ≤ 6) : RO l g yX6_sumOf wsX6_sumOf 0 0 L f [.ref mh, .ref q] (fun r => r = sumN w nv) := by
  refine RO.start (cc := cX6_sumOf) (maxL := 4) (ret := .int) (by decide +kernel) rfl (by simp [lg_sl, Value.category]) ?_
  intro p e s m args below meth c Q ls hx hb hml hts hown hP hK hl hend
  have hl : lv_has ls 4 [(0, .ref mh), (1, .ref q)] := hl
  have hi_X6 : ∀ w ∈ u_ws RX6 TX6 10, w ∈ wsX6_sumOf := by decide +kernel
  have n_mh_q : mh ≠ q := ne_e hf_mh hf_q (by simp)
  refine lv_iconst (v := 0) hx hb dX6_sumOf_0 (by decide) ?_
  refine lv_istore_n (lv' := [(2, .int 0), (0, .ref mh), (1, .ref q)]) hx hb dX6_sumOf_1 rfl hl (by decide) rfl (fun ls hl => ?_)
  refine lv_iconst (v := 0) hx hb dX6_sumOf_2 (by decide) ?_
  refine lv_istore_n (lv' := [(3, .int 0), (2, .int 0), (0, .ref mh), (1, .ref q)]) hx hb dX6_sumOf_3 rfl hl (by decide) rfl (fun ls hl => ?_)
  have K4 : ∀ (n4 : Nat) (i : Nat) (acc : Int32), nv - i < n4 → i ≤ nv → acc = sumN w i → ∀ (ls : Array Slot), lv_has ls 4 [(3, .int (nI i)), (2, .int acc), (1, .ref q), (0, .ref mh)] → W p l e ({ frames := 0, cells := 0, slots := 0, locals := 0 } : Room) s m args below meth c s.heap [] 0 0 Q (F0 m 4 ls []) := by
    intro n4
    induction n4 with
    | zero => intros; omega
    | succ n4 ih4 =>
      intro i acc hm4 hi ha ls hl
      refine lv_iload_n hx hb dX6_sumOf_4 rfl (lv_at hl 0 rfl) ?_
      refine lv_aload_n hx hb dX6_sumOf_5 rfl (lv_at hl 3 rfl) ?_
      refine pg_get (C := RX6) (T := TX6) (N := 10) hx hb hts hi_X6 hown hK hP hL_mh hf_mh rfl 6 (by decide) (hts (.fieldLink RX6 52 "BarometerLeagueModel" "villages" "I") (by decide +kernel)) (fun _ h9 => h9) rfl dX6_sumOf_6 ?_
      refine lv_icmp_ge (tgt := 24) hx hb dX6_sumOf_9 (by decide) (fun c9 => ?_) (fun c9 => ?_)
      · skip
        have c9 : nv ≤ i := (nI_leI (a := nv) (b := i) (by omega) (by omega)).mp (show nI nv ≤ nI i from c9)
        refine lv_iload_n hx hb dX6_sumOf_24 rfl (lv_at hl 1 rfl) ?_
        exact hend (acc) _ _ (by rw [ha, show i = nv from (by omega)]) rfl dX6_sumOf_25
      · skip
        have c9 : ¬ nv ≤ i := fun h => c9 ((nI_leI (a := nv) (b := i) (by omega) (by omega)).mpr h)
        refine lv_iload_n hx hb dX6_sumOf_12 rfl (lv_at hl 1 rfl) ?_
        refine lv_aload_n hx hb dX6_sumOf_13 rfl (lv_at hl 2 rfl) ?_
        refine lv_iload_n hx hb dX6_sumOf_14 rfl (lv_at hl 0 rfl) ?_
        refine pn_iald (j := i) hx hb hK hP hL_q hf_q rfl (by omega) (Nat.lt_of_lt_of_le (m := 100) (by omega) (by omega)) dX6_sumOf_15 ?_
        refine lv_iadd hx hb dX6_sumOf_16 ?_
        refine lv_topi (fun v16 ev16 => ?_)
        refine lv_istore_n (lv' := [(2, .int v16), (3, .int (nI i)), (1, .ref q), (0, .ref mh)]) hx hb dX6_sumOf_17 rfl hl (by decide) rfl (fun ls hl => ?_)
        refine lv_iinc (v := nI (i + 1)) (lv' := [(3, .int (nI (i + 1))), (2, .int v16), (1, .ref q), (0, .ref mh)]) hx hb dX6_sumOf_18 hl (k := 1) rfl (nI_1 _) (by decide) rfl (fun ls hl => ?_)
        refine lv_goto (tgt := 4) hx hb dX6_sumOf_21 (by decide) ?_
        exact ih4 (i + 1) v16 (by omega) (by omega) (sumN_s ha ev16) ls (lv_sub hl [0, 1, 2, 3] rfl)
  exact K4 _ 0 0 (Nat.lt_succ_self _) (Nat.zero_le _) (rfl) ls (lv_sub hl [0, 1, 3, 2] rfl)

set_option maxHeartbeats 4000000 in
set_option maxRecDepth 100000 in
theorem m_X5_copy (l : Launch) (g : GG) (L : List Nat) (f : Nat → va_E) (sz : Nat) (hN : L.Nodup) (fr to k : Nat) (hf ht : Nat → Int32) (hL_fr : fr ∈ L) (hf_fr : f fr = eI g k hf) (hL_to : to ∈ L) (hf_to : f to = eI g k ht) (n_fr_to : fr ≠ to) (hk : k ≤ 100) : RV l g yX5_copy wsX5_copy 1 26 L f sz [.ref fr, .ref to] (fun f2 => f2 to = eI g k hf ∧ Fr f f2 [to]) := by
  refine RV.start (cc := cX5_copy) (maxL := 2) (by decide +kernel) rfl (by simp [lg_sl, Value.category]) ?_
  intro p e s m args below meth c Q ls A hx hb hml hts hown hA hA2 hS hP hK hl hend
  have hl : lv_has ls 2 [(0, .ref fr), (1, .ref to)] := hl
  have hFr : Fr f f [to] := Fr.rf
  have h0f_fr := hf_fr
  have h0f_to := hf_to
  refine lv_aload_n hx hb dX5_copy_0 rfl (lv_at hl 0 rfl) ?_
  refine lv_iconst (v := 0) hx hb dX5_copy_1 (by decide) ?_
  refine lv_aload_n hx hb dX5_copy_2 rfl (lv_at hl 1 rfl) ?_
  refine lv_iconst (v := 0) hx hb dX5_copy_3 (by decide) ?_
  refine lv_aload_n hx hb dX5_copy_4 rfl (lv_at hl 1 rfl) ?_
  refine pg_alen hx hb hK hP hL_to hf_to 0 rfl (v := nI k) rfl dX5_copy_5 ?_
  refine pg_copyi hx hb (hml.trans hl.1.symm) hown (hts (.methodLink RX5 24 arraycopyName) (by decide +kernel)) (hts (.native arraycopyName) (by decide +kernel)) (hts (.static arraycopyName) (by decide +kernel)) (hts (.initialized "java/lang/System") (by decide +kernel)) hK hP hN hA hS hL_fr hf_fr hL_to hf_to (by omega) rfl rfl rfl (Nat.le_of_ble_eq_true rfl) (Nat.le_of_ble_eq_true rfl) dX5_copy_6 (fun H locs hP hS => ?_)
  obtain ⟨f6, ef6⟩ : ∃ z, z = va_up f to (eI g k hf) := ⟨_, rfl⟩
  replace hP : PP g L f6 H := by rw [ef6]; exact hP
  have hf_fr : f6 fr = eI g k hf := by rw [ef6, va_up_ne _ _ n_fr_to]; exact hf_fr
  have hf_to : f6 to = eI g k hf := by rw [ef6]; exact va_up_self _ _ _
  replace hFr : Fr f f6 [to] := by rw [ef6]; exact hFr.up (by simp)
  exact hend f6 _ _ _ _ (⟨hf_to, hFr⟩) hP hS dX5_copy_9
