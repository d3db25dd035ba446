set_option maxHeartbeats 4000000 in
set_option maxRecDepth 100000 in
theorem m_X2_size (l : Launch) (g : GG) (L : List Nat) (f : Nat → va_E) (rh pa n : Nat) (hL_rh : rh ∈ L) (hf_rh : f rh = eO 3 [.ref pa, .int (nI n)]) : RO l g yX2_size wsX2_size 0 0 L f [.ref rh] (fun r => r = nI n) := by
  refine RO.start (cc := cX2_size) (maxL := 1) (ret := .int) (by decide +kernel) rfl (by simp [lg_sl, Value.category]) ?_
  intro p e s m args below meth c Q ls hx hb hml hts hown hP hK hl hend
  have hl : lv_has ls 1 [(0, .ref rh)] := hl
  have hi_X2 : ∀ w ∈ u_ws RX2 TX2 2, w ∈ wsX2_size := by decide +kernel
  refine lv_aload_n hx hb dX2_size_0 rfl (lv_at hl 0 rfl) ?_
  refine pg_get (C := RX2) (T := TX2) (N := 2) hx hb hts hi_X2 hown hK hP hL_rh hf_rh rfl 1 (by decide) (hts (.fieldLink RX2 24 "BarometerLeague$VillageRow" "size" "I") (by decide +kernel)) (fun _ h9 => h9) rfl dX2_size_1 ?_
  exact hend (nI n) _ _ (rfl) rfl dX2_size_4

set_option maxHeartbeats 4000000 in
set_option maxRecDepth 100000 in
theorem m_X2_isFull (l : Launch) (g : GG) (L : List Nat) (f : Nat → va_E) (rh pa n cap : Nat) (pl : Nat → Option Nat) (hL_rh : rh ∈ L) (hf_rh : f rh = eO 3 [.ref pa, .int (nI n)]) (hL_pa : pa ∈ L) (hf_pa : f pa = eV g cap pl) (hcap : cap ≤ 20) (hn : n ≤ cap) : RO l g yX2_isFull wsX2_isFull 0 0 L f [.ref rh] (fun r => r = b2i (decide (cap ≤ n))) := by
  refine RO.start (cc := cX2_isFull) (maxL := 1) (ret := .boolean) (by decide +kernel) rfl (by simp [lg_sl, Value.category]) ?_
  intro p e s m args below meth c Q ls hx hb hml hts hown hP hK hl hend
  have hl : lv_has ls 1 [(0, .ref rh)] := hl
  have hi_X2 : ∀ w ∈ u_ws RX2 TX2 2, w ∈ wsX2_isFull := by decide +kernel
  have n_rh_pa : rh ≠ pa := ne_e hf_rh hf_pa (by simp)
  refine lv_aload_n hx hb dX2_isFull_0 rfl (lv_at hl 0 rfl) ?_
  refine pg_get (C := RX2) (T := TX2) (N := 2) hx hb hts hi_X2 hown hK hP hL_rh hf_rh rfl 1 (by decide) (hts (.fieldLink RX2 24 "BarometerLeague$VillageRow" "size" "I") (by decide +kernel)) (fun _ h9 => h9) rfl dX2_isFull_1 ?_
  refine lv_aload_n hx hb dX2_isFull_4 rfl (lv_at hl 0 rfl) ?_
  refine pg_get (C := RX2) (T := TX2) (N := 2) hx hb hts hi_X2 hown hK hP hL_rh hf_rh rfl 0 (by decide) (hts (.fieldLink RX2 15 "BarometerLeague$VillageRow" "places" "[LBarometerLeague$Village;") (by decide +kernel)) (fun _ h9 => h9) rfl dX2_isFull_5 ?_
  refine pg_alen hx hb hK hP hL_pa hf_pa 2 rfl (v := nI cap) rfl dX2_isFull_8 ?_
  refine lv_icmp_lt (tgt := 16) hx hb dX2_isFull_9 (by decide) (fun c9 => ?_) (fun c9 => ?_)
  · skip
    have c9 : n < cap := (nI_ltI (a := n) (b := cap) (by omega) (by omega)).mp (show nI n < nI cap from c9)
    refine lv_iconst (v := 0) hx hb dX2_isFull_16 (by decide) ?_
    exact hend (0) _ _ (bf rfl (by omega)) rfl dX2_isFull_17
  · skip
    have c9 : ¬ n < cap := fun h => c9 ((nI_ltI (a := n) (b := cap) (by omega) (by omega)).mpr h)
    refine lv_iconst (v := 1) hx hb dX2_isFull_12 (by decide) ?_
    refine lv_goto (tgt := 17) hx hb dX2_isFull_13 (by decide) ?_
    exact hend (1) _ _ (bt rfl (by omega)) rfl dX2_isFull_17

set_option maxHeartbeats 4000000 in
set_option maxRecDepth 100000 in
theorem m_X2_grow (l : Launch) (g : GG) (L : List Nat) (f : Nat → va_E) (sz : Nat) (hN : L.Nodup) (rh pa n cap : Nat) (pl : Nat → Option Nat) (hL_rh : rh ∈ L) (hf_rh : f rh = eO 3 [.ref pa, .int (nI n)]) (hL_pa : pa ∈ L) (hf_pa : f pa = eV g cap pl) (hcap : cap ≤ 20) (hn : n < cap) : RV l g yX2_grow wsX2_grow 1 20 L f sz [.ref rh] (fun f2 => f2 rh = eO 3 [.ref pa, .int (nI (n + 1))] ∧ Fr f f2 [rh]) := by
  refine RV.start (cc := cX2_grow) (maxL := 1) (by decide +kernel) rfl (by simp [lg_sl, Value.category]) ?_
  intro p e s m args below meth c Q ls A hx hb hml hts hown hA hA2 hS hP hK hl hend
  have hl : lv_has ls 1 [(0, .ref rh)] := hl
  have hi_X2 : ∀ w ∈ u_ws RX2 TX2 2, w ∈ wsX2_grow := by decide +kernel
  have hFr : Fr f f [rh] := Fr.rf
  have n_rh_pa : rh ≠ pa := ne_e hf_rh hf_pa (by simp)
  have h0f_rh := hf_rh
  have h0f_pa := hf_pa
  refine lv_aload_n hx hb dX2_grow_0 rfl (lv_at hl 0 rfl) ?_
  refine ro_V (As := []) (rest := []) ⟨hx, hb, hml, hown, hts⟩ (m_X2_isFull l g L f _ _ _ _ _ hL_rh hf_rh hL_pa hf_pa hcap (by omega)) (cwV 0 hts gX2_grow_X2_isFull rfl rfl rfl (by decide +kernel) ⟨Nat.le_of_ble_eq_true rfl, Nat.le_of_ble_eq_true rfl⟩) hK hP hL_rh hf_rh rfl rfl hl.1 rfl (Nat.le_of_ble_eq_true rfl) dX2_grow_1 ⟨Nat.zero_le _, Nat.zero_le _⟩ (fun r1 hr1 => ?_)
  have hr1 : r1 = b2i (decide (cap ≤ n)) := hr1
  subst hr1
  refine lv_if_ne (tgt := 17) hx hb dX2_grow_4 (by decide) (fun c4 => by exfalso; exact c4 (by rw [decide_eq_false (by omega)]; rfl)) (fun c4 => ?_)
  refine lv_aload_n hx hb dX2_grow_7 rfl (lv_at hl 0 rfl) ?_
  refine lv_dup hx hb dX2_grow_8 rfl ?_
  refine pg_get (C := RX2) (T := TX2) (N := 2) hx hb hts hi_X2 hown hK hP hL_rh hf_rh rfl 1 (by decide) (hts (.fieldLink RX2 24 "BarometerLeague$VillageRow" "size" "I") (by decide +kernel)) (fun _ h9 => h9) rfl dX2_grow_9 ?_
  refine lv_iconst (v := 1) hx hb dX2_grow_12 (by decide) ?_
  refine lv_iadd hx hb dX2_grow_13 ?_
  refine lv_topi (fun v13 ev13 => ?_)
  refine pg_put (ty := .int) (C := RX2) (T := TX2) (N := 2) hx hb hts hi_X2 tyX2 tyX2_ok nmX2 hown hK hP hN hA hS hL_rh hf_rh rfl 1 (by decide) (hts (.fieldLink RX2 24 "BarometerLeague$VillageRow" "size" "I") (by decide +kernel)) (fun _ h9 => h9) rfl (by decide +kernel) rfl rfl (Nat.le_of_ble_eq_true rfl) dX2_grow_14 (fun H locs hP hS => ?_)
  obtain ⟨f14, ef14⟩ : ∃ z, z = va_up f rh (eO 3 [.ref pa, .int v13]) := ⟨_, rfl⟩
  replace hP : PP g L f14 H := by rw [ef14]; exact hP
  have hf_pa : f14 pa = eV g cap pl := by rw [ef14, va_up_ne _ _ n_rh_pa.symm]; exact hf_pa
  have hf_rh : f14 rh = eO 3 [.ref pa, .int v13] := by rw [ef14]; exact va_up_self _ _ _
  replace hFr : Fr f f14 [rh] := by rw [ef14]; exact hFr.up (by simp)
  exact hend f14 _ _ _ _ (⟨by rw [hf_rh, ev13]; exact congrArg (fun z => eO 3 [.ref pa, .int z]) (nI_1 n), hFr⟩) hP hS dX2_grow_17

set_option maxHeartbeats 4000000 in
set_option maxRecDepth 100000 in
theorem m_X2_clear (l : Launch) (g : GG) (L : List Nat) (f : Nat → va_E) (sz : Nat) (hN : L.Nodup) (rh pa n : Nat) (hL_rh : rh ∈ L) (hf_rh : f rh = eO 3 [.ref pa, .int (nI n)]) : RV l g yX2_clear wsX2_clear 0 0 L f sz [.ref rh] (fun f2 => f2 rh = eO 3 [.ref pa, .int (nI 0)] ∧ Fr f f2 [rh]) := by
  refine RV.start (cc := cX2_clear) (maxL := 1) (by decide +kernel) rfl (by simp [lg_sl, Value.category]) ?_
  intro p e s m args below meth c Q ls A hx hb hml hts hown hA hA2 hS hP hK hl hend
  have hl : lv_has ls 1 [(0, .ref rh)] := hl
  have hi_X2 : ∀ w ∈ u_ws RX2 TX2 2, w ∈ wsX2_clear := by decide +kernel
  have hFr : Fr f f [rh] := Fr.rf
  have h0f_rh := hf_rh
  refine lv_aload_n hx hb dX2_clear_0 rfl (lv_at hl 0 rfl) ?_
  refine lv_iconst (v := 0) hx hb dX2_clear_1 (by decide) ?_
  refine pg_put (ty := .int) (C := RX2) (T := TX2) (N := 2) hx hb hts hi_X2 tyX2 tyX2_ok nmX2 hown hK hP hN hA hS hL_rh hf_rh rfl 1 (by decide) (hts (.fieldLink RX2 24 "BarometerLeague$VillageRow" "size" "I") (by decide +kernel)) (fun _ h9 => h9) rfl (by decide +kernel) rfl rfl (Nat.le_of_ble_eq_true rfl) dX2_clear_2 (fun H locs hP hS => ?_)
  obtain ⟨f2, ef2⟩ : ∃ z, z = va_up f rh (eO 3 [.ref pa, .int 0]) := ⟨_, rfl⟩
  replace hP : PP g L f2 H := by rw [ef2]; exact hP
  have hf_rh : f2 rh = eO 3 [.ref pa, .int 0] := by rw [ef2]; exact va_up_self _ _ _
  replace hFr : Fr f f2 [rh] := by rw [ef2]; exact hFr.up (by simp)
  exact hend f2 _ _ _ _ (⟨hf_rh, hFr⟩) hP hS dX2_clear_5

set_option maxHeartbeats 4000000 in
set_option maxRecDepth 100000 in
theorem m_X2_allPoints (l : Launch) (g : GG) (L : List Nat) (f : Nat → va_E) (rh pa n cap : Nat) (pl : Nat → Option Nat) (ad aw : Nat → Nat) (vs : Nat → VV) (hL_rh : rh ∈ L) (hf_rh : f rh = eO 3 [.ref pa, .int (nI n)]) (hL_pa : pa ∈ L) (hf_pa : f pa = eV g cap pl) (hcap : cap ≤ 20) (hn : n ≤ cap) (hpl : ∀ v, v < cap → pl v = some (ad v)) (hV : Vils g L f cap ad aw vs) : RO l g yX2_allPoints wsX2_allPoints 0 0 L f [.ref rh] (fun r => r = sumN (fun v => (vs v).2.1) n) := by
  refine RO.start (cc := cX2_allPoints) (maxL := 3) (ret := .int) (by decide +kernel) rfl (by simp [lg_sl, Value.category]) ?_
  intro p e s m args below meth c Q ls hx hb hml hts hown hP hK hl hend
  have hl : lv_has ls 3 [(0, .ref rh)] := hl
  have hi_X1 : ∀ w ∈ u_ws RX1 TX1 5, w ∈ wsX2_allPoints := by decide +kernel
  have hi_X2 : ∀ w ∈ u_ws RX2 TX2 2, w ∈ wsX2_allPoints := by decide +kernel
  have n_rh_pa : rh ≠ pa := ne_e hf_rh hf_pa (by simp)
  refine lv_iconst (v := 0) hx hb dX2_allPoints_0 (by decide) ?_
  refine lv_istore_n (lv' := [(1, .int 0), (0, .ref rh)]) hx hb dX2_allPoints_1 rfl hl (by decide) rfl (fun ls hl => ?_)
  refine lv_iconst (v := 0) hx hb dX2_allPoints_2 (by decide) ?_
  refine lv_istore_n (lv' := [(2, .int 0), (1, .int 0), (0, .ref rh)]) hx hb dX2_allPoints_3 rfl hl (by decide) rfl (fun ls hl => ?_)
  have K4 : ∀ (n4 : Nat) (i : Nat) (acc : Int32), n - i < n4 → i ≤ n → acc = sumN (fun v => (vs v).2.1) i → ∀ (ls : Array Slot), lv_has ls 3 [(2, .int (nI i)), (1, .int acc), (0, .ref rh)] → W p l e ({ frames := 0, cells := 0, slots := 0, locals := 0 } : Room) s m args below meth c s.heap [] 0 0 Q (F0 m 4 ls []) := by
    intro n4
    induction n4 with
    | zero => intros; omega
    | succ n4 ih4 =>
      intro i acc hm4 hi ha ls hl
      refine lv_iload_n hx hb dX2_allPoints_4 rfl (lv_at hl 0 rfl) ?_
      refine lv_aload_n hx hb dX2_allPoints_5 rfl (lv_at hl 2 rfl) ?_
      refine pg_get (C := RX2) (T := TX2) (N := 2) hx hb hts hi_X2 hown hK hP hL_rh hf_rh rfl 1 (by decide) (hts (.fieldLink RX2 24 "BarometerLeague$VillageRow" "size" "I") (by decide +kernel)) (fun _ h9 => h9) rfl dX2_allPoints_6 ?_
      refine lv_icmp_ge (tgt := 30) hx hb dX2_allPoints_9 (by decide) (fun c9 => ?_) (fun c9 => ?_)
      · skip
        have c9 : n ≤ i := (nI_leI (a := n) (b := i) (by omega) (by omega)).mp (show nI n ≤ nI i from c9)
        refine lv_iload_n hx hb dX2_allPoints_30 rfl (lv_at hl 1 rfl) ?_
        exact hend (acc) _ _ (by rw [ha, show i = n from (by omega)]) rfl dX2_allPoints_31
      · skip
        have c9 : ¬ n ≤ i := fun h => c9 ((nI_leI (a := n) (b := i) (by omega) (by omega)).mpr h)
        refine lv_iload_n hx hb dX2_allPoints_12 rfl (lv_at hl 1 rfl) ?_
        refine lv_aload_n hx hb dX2_allPoints_13 rfl (lv_at hl 2 rfl) ?_
        refine pg_get (C := RX2) (T := TX2) (N := 2) hx hb hts hi_X2 hown hK hP hL_rh hf_rh rfl 0 (by decide) (hts (.fieldLink RX2 15 "BarometerLeague$VillageRow" "places" "[LBarometerLeague$Village;") (by decide +kernel)) (fun _ h9 => h9) rfl dX2_allPoints_14 ?_
        refine lv_iload_n hx hb dX2_allPoints_17 rfl (lv_at hl 0 rfl) ?_
        refine pn_vald (j := i) hx hb hK hP hL_pa hf_pa rfl (by omega) (Nat.lt_of_lt_of_le (m := 100) (by omega) (by omega)) (hpl i (by omega)) dX2_allPoints_18 ?_
        have q18 := hV i (by omega)
        obtain ⟨hL_ad_i, hf_ad_i, hL_aw_i, hf_aw_i⟩ := q18
        refine pg_getN (C := RX1) (T := TX1) (N := 5) hx hb hts hi_X1 hown hK hP hL_ad_i hf_ad_i rfl 2 (by decide) (hK.nest 0 rfl) (fun _ h9 => h9) rfl dX2_allPoints_19 ?_
        refine lv_iadd hx hb dX2_allPoints_22 ?_
        refine lv_topi (fun v22 ev22 => ?_)
        refine lv_istore_n (lv' := [(1, .int v22), (2, .int (nI i)), (0, .ref rh)]) hx hb dX2_allPoints_23 rfl hl (by decide) rfl (fun ls hl => ?_)
        refine lv_iinc (v := nI (i + 1)) (lv' := [(2, .int (nI (i + 1))), (1, .int v22), (0, .ref rh)]) hx hb dX2_allPoints_24 hl (k := 1) rfl (nI_1 _) (by decide) rfl (fun ls hl => ?_)
        refine lv_goto (tgt := 4) hx hb dX2_allPoints_27 (by decide) ?_
        exact ih4 (i + 1) v22 (by omega) (by omega) (sumN_s ha ev22) ls (lv_sub hl [0, 1, 2] rfl)
  exact K4 _ 0 0 (Nat.lt_succ_self _) (Nat.zero_le _) (rfl) ls (lv_sub hl [0, 1, 2] rfl)

set_option maxHeartbeats 4000000 in
set_option maxRecDepth 100000 in
theorem m_X2_allCoins (l : Launch) (g : GG) (L : List Nat) (f : Nat → va_E) (rh pa n cap : Nat) (pl : Nat → Option Nat) (ad aw : Nat → Nat) (vs : Nat → VV) (hL_rh : rh ∈ L) (hf_rh : f rh = eO 3 [.ref pa, .int (nI n)]) (hL_pa : pa ∈ L) (hf_pa : f pa = eV g cap pl) (hcap : cap ≤ 20) (hn : n ≤ cap) (hpl : ∀ v, v < cap → pl v = some (ad v)) (hV : Vils g L f cap ad aw vs) : RO l g yX2_allCoins wsX2_allCoins 0 0 L f [.ref rh] (fun r => r = sumN (fun v => (vs v).2.2.1) n) := by
  refine RO.start (cc := cX2_allCoins) (maxL := 3) (ret := .int) (by decide +kernel) rfl (by simp [lg_sl, Value.category]) ?_
  intro p e s m args below meth c Q ls hx hb hml hts hown hP hK hl hend
  have hl : lv_has ls 3 [(0, .ref rh)] := hl
  have hi_X1 : ∀ w ∈ u_ws RX1 TX1 5, w ∈ wsX2_allCoins := by decide +kernel
  have hi_X2 : ∀ w ∈ u_ws RX2 TX2 2, w ∈ wsX2_allCoins := by decide +kernel
  have n_rh_pa : rh ≠ pa := ne_e hf_rh hf_pa (by simp)
  refine lv_iconst (v := 0) hx hb dX2_allCoins_0 (by decide) ?_
  refine lv_istore_n (lv' := [(1, .int 0), (0, .ref rh)]) hx hb dX2_allCoins_1 rfl hl (by decide) rfl (fun ls hl => ?_)
  refine lv_iconst (v := 0) hx hb dX2_allCoins_2 (by decide) ?_
  refine lv_istore_n (lv' := [(2, .int 0), (1, .int 0), (0, .ref rh)]) hx hb dX2_allCoins_3 rfl hl (by decide) rfl (fun ls hl => ?_)
  have K4 : ∀ (n4 : Nat) (i : Nat) (acc : Int32), n - i < n4 → i ≤ n → acc = sumN (fun v => (vs v).2.2.1) i → ∀ (ls : Array Slot), lv_has ls 3 [(2, .int (nI i)), (1, .int acc), (0, .ref rh)] → W p l e ({ frames := 0, cells := 0, slots := 0, locals := 0 } : Room) s m args below meth c s.heap [] 0 0 Q (F0 m 4 ls []) := by
    intro n4
    induction n4 with
    | zero => intros; omega
    | succ n4 ih4 =>
      intro i acc hm4 hi ha ls hl
      refine lv_iload_n hx hb dX2_allCoins_4 rfl (lv_at hl 0 rfl) ?_
      refine lv_aload_n hx hb dX2_allCoins_5 rfl (lv_at hl 2 rfl) ?_
      refine pg_get (C := RX2) (T := TX2) (N := 2) hx hb hts hi_X2 hown hK hP hL_rh hf_rh rfl 1 (by decide) (hts (.fieldLink RX2 24 "BarometerLeague$VillageRow" "size" "I") (by decide +kernel)) (fun _ h9 => h9) rfl dX2_allCoins_6 ?_
      refine lv_icmp_ge (tgt := 30) hx hb dX2_allCoins_9 (by decide) (fun c9 => ?_) (fun c9 => ?_)
      · skip
        have c9 : n ≤ i := (nI_leI (a := n) (b := i) (by omega) (by omega)).mp (show nI n ≤ nI i from c9)
        refine lv_iload_n hx hb dX2_allCoins_30 rfl (lv_at hl 1 rfl) ?_
        exact hend (acc) _ _ (by rw [ha, show i = n from (by omega)]) rfl dX2_allCoins_31
      · skip
        have c9 : ¬ n ≤ i := fun h => c9 ((nI_leI (a := n) (b := i) (by omega) (by omega)).mpr h)
        refine lv_iload_n hx hb dX2_allCoins_12 rfl (lv_at hl 1 rfl) ?_
        refine lv_aload_n hx hb dX2_allCoins_13 rfl (lv_at hl 2 rfl) ?_
        refine pg_get (C := RX2) (T := TX2) (N := 2) hx hb hts hi_X2 hown hK hP hL_rh hf_rh rfl 0 (by decide) (hts (.fieldLink RX2 15 "BarometerLeague$VillageRow" "places" "[LBarometerLeague$Village;") (by decide +kernel)) (fun _ h9 => h9) rfl dX2_allCoins_14 ?_
        refine lv_iload_n hx hb dX2_allCoins_17 rfl (lv_at hl 0 rfl) ?_
        refine pn_vald (j := i) hx hb hK hP hL_pa hf_pa rfl (by omega) (Nat.lt_of_lt_of_le (m := 100) (by omega) (by omega)) (hpl i (by omega)) dX2_allCoins_18 ?_
        have q18 := hV i (by omega)
        obtain ⟨hL_ad_i, hf_ad_i, hL_aw_i, hf_aw_i⟩ := q18
        refine pg_getN (C := RX1) (T := TX1) (N := 5) hx hb hts hi_X1 hown hK hP hL_ad_i hf_ad_i rfl 3 (by decide) (hK.nest 3 rfl) (fun _ h9 => h9) rfl dX2_allCoins_19 ?_
        refine lv_iadd hx hb dX2_allCoins_22 ?_
        refine lv_topi (fun v22 ev22 => ?_)
        refine lv_istore_n (lv' := [(1, .int v22), (2, .int (nI i)), (0, .ref rh)]) hx hb dX2_allCoins_23 rfl hl (by decide) rfl (fun ls hl => ?_)
        refine lv_iinc (v := nI (i + 1)) (lv' := [(2, .int (nI (i + 1))), (1, .int v22), (0, .ref rh)]) hx hb dX2_allCoins_24 hl (k := 1) rfl (nI_1 _) (by decide) rfl (fun ls hl => ?_)
        refine lv_goto (tgt := 4) hx hb dX2_allCoins_27 (by decide) ?_
        exact ih4 (i + 1) v22 (by omega) (by omega) (sumN_s ha ev22) ls (lv_sub hl [0, 1, 2] rfl)
  exact K4 _ 0 0 (Nat.lt_succ_self _) (Nat.zero_le _) (rfl) ls (lv_sub hl [0, 1, 2] rfl)

set_option maxHeartbeats 4000000 in
set_option maxRecDepth 100000 in
theorem m_X2_allWeightsOf (l : Launch) (g : GG) (L : List Nat) (f : Nat → va_E) (rh pa n cap : Nat) (pl : Nat → Option Nat) (ad aw : Nat → Nat) (vs : Nat → VV) (j : Nat) (hL_rh : rh ∈ L) (hf_rh : f rh = eO 3 [.ref pa, .int (nI n)]) (hL_pa : pa ∈ L) (hf_pa : f pa = eV g cap pl) (hcap : cap ≤ 20) (hn : n ≤ cap) (hpl : ∀ v, v < cap → pl v = some (ad v)) (hV : Vils g L f cap ad aw vs) (hj : j < 8) : RO l g yX2_allWeightsOf wsX2_allWeightsOf 1 21 L f [.ref rh, .int (nI j)] (fun r => r = sumN (fun v => (vs v).2.2.2.2 j) n) := by
  refine RO.start (cc := cX2_allWeightsOf) (maxL := 4) (ret := .int) (by decide +kernel) rfl (by simp [lg_sl, Value.category]) ?_
  intro p e s m args below meth c Q ls hx hb hml hts hown hP hK hl hend
  have hl : lv_has ls 4 [(0, .ref rh), (1, .int (nI j))] := hl
  have hi_X2 : ∀ w ∈ u_ws RX2 TX2 2, w ∈ wsX2_allWeightsOf := by decide +kernel
  have n_rh_pa : rh ≠ pa := ne_e hf_rh hf_pa (by simp)
  refine lv_iconst (v := 0) hx hb dX2_allWeightsOf_0 (by decide) ?_
  refine lv_istore_n (lv' := [(2, .int 0), (0, .ref rh), (1, .int (nI j))]) hx hb dX2_allWeightsOf_1 rfl hl (by decide) rfl (fun ls hl => ?_)
  refine lv_iconst (v := 0) hx hb dX2_allWeightsOf_2 (by decide) ?_
  refine lv_istore_n (lv' := [(3, .int 0), (2, .int 0), (0, .ref rh), (1, .int (nI j))]) hx hb dX2_allWeightsOf_3 rfl hl (by decide) rfl (fun ls hl => ?_)
  have K4 : ∀ (n4 : Nat) (i : Nat) (acc : Int32), n - i < n4 → i ≤ n → acc = sumN (fun v => (vs v).2.2.2.2 j) i → ∀ (ls : Array Slot), lv_has ls 4 [(3, .int (nI i)), (2, .int acc), (1, .int (nI j)), (0, .ref rh)] → W p l e ({ frames := 1, cells := 0, slots := 0, locals := 21 } : Room) s m args below meth c s.heap [] 0 0 Q (F0 m 4 ls []) := by
    intro n4
    induction n4 with
    | zero => intros; omega
    | succ n4 ih4 =>
      intro i acc hm4 hi ha ls hl
      refine lv_iload_n hx hb dX2_allWeightsOf_4 rfl (lv_at hl 0 rfl) ?_
      refine lv_aload_n hx hb dX2_allWeightsOf_5 rfl (lv_at hl 3 rfl) ?_
      refine pg_get (C := RX2) (T := TX2) (N := 2) hx hb hts hi_X2 hown hK hP hL_rh hf_rh rfl 1 (by decide) (hts (.fieldLink RX2 24 "BarometerLeague$VillageRow" "size" "I") (by decide +kernel)) (fun _ h9 => h9) rfl dX2_allWeightsOf_6 ?_
      refine lv_icmp_ge (tgt := 31) hx hb dX2_allWeightsOf_9 (by decide) (fun c9 => ?_) (fun c9 => ?_)
      · skip
        have c9 : n ≤ i := (nI_leI (a := n) (b := i) (by omega) (by omega)).mp (show nI n ≤ nI i from c9)
        refine lv_iload_n hx hb dX2_allWeightsOf_31 rfl (lv_at hl 1 rfl) ?_
        exact hend (acc) _ _ (by rw [ha, show i = n from (by omega)]) rfl dX2_allWeightsOf_32
      · skip
        have c9 : ¬ n ≤ i := fun h => c9 ((nI_leI (a := n) (b := i) (by omega) (by omega)).mpr h)
        refine lv_iload_n hx hb dX2_allWeightsOf_12 rfl (lv_at hl 1 rfl) ?_
        refine lv_aload_n hx hb dX2_allWeightsOf_13 rfl (lv_at hl 3 rfl) ?_
        refine pg_get (C := RX2) (T := TX2) (N := 2) hx hb hts hi_X2 hown hK hP hL_rh hf_rh rfl 0 (by decide) (hts (.fieldLink RX2 15 "BarometerLeague$VillageRow" "places" "[LBarometerLeague$Village;") (by decide +kernel)) (fun _ h9 => h9) rfl dX2_allWeightsOf_14 ?_
        refine lv_iload_n hx hb dX2_allWeightsOf_17 rfl (lv_at hl 0 rfl) ?_
        refine pn_vald (j := i) hx hb hK hP hL_pa hf_pa rfl (by omega) (Nat.lt_of_lt_of_le (m := 100) (by omega) (by omega)) (hpl i (by omega)) dX2_allWeightsOf_18 ?_
        have q18 := hV i (by omega)
        obtain ⟨hL_ad_i, hf_ad_i, hL_aw_i, hf_aw_i⟩ := q18
        refine lv_iload_n hx hb dX2_allWeightsOf_19 rfl (lv_at hl 2 rfl) ?_
        refine ro_V (As := [.int (nI j)]) (rest := [.int acc]) ⟨hx, hb, hml, hown, hts⟩ (m_X1_weightOf l g L f _ _ _ _ _ _ _ j hL_ad_i hf_ad_i hL_aw_i hf_aw_i hj) (cwV 1 hts gX2_allWeightsOf_X1_weightOf rfl rfl rfl (by decide +kernel) ⟨Nat.le_of_ble_eq_true rfl, Nat.le_of_ble_eq_true rfl⟩) hK hP hL_ad_i hf_ad_i rfl rfl hl.1 rfl (Nat.le_of_ble_eq_true rfl) dX2_allWeightsOf_20 ⟨Nat.zero_le _, Nat.zero_le _⟩ (fun r20 hr20 => ?_)
        have hr20 : r20 = (vs i).2.2.2.2 j := hr20
        subst hr20
        refine lv_iadd hx hb dX2_allWeightsOf_23 ?_
        refine lv_topi (fun v23 ev23 => ?_)
        refine lv_istore_n (lv' := [(2, .int v23), (3, .int (nI i)), (1, .int (nI j)), (0, .ref rh)]) hx hb dX2_allWeightsOf_24 rfl hl (by decide) rfl (fun ls hl => ?_)
        refine lv_iinc (v := nI (i + 1)) (lv' := [(3, .int (nI (i + 1))), (2, .int v23), (1, .int (nI j)), (0, .ref rh)]) hx hb dX2_allWeightsOf_25 hl (k := 1) rfl (nI_1 _) (by decide) rfl (fun ls hl => ?_)
        refine lv_goto (tgt := 4) hx hb dX2_allWeightsOf_28 (by decide) ?_
        exact ih4 (i + 1) v23 (by omega) (by omega) (sumN_s ha ev23) ls (lv_sub hl [0, 1, 2, 3] rfl)
  exact K4 _ 0 0 (Nat.lt_succ_self _) (Nat.zero_le _) (rfl) ls (lv_sub hl [0, 1, 3, 2] rfl)

set_option maxHeartbeats 4000000 in
set_option maxRecDepth 100000 in
theorem m_X2_guessingRain (l : Launch) (g : GG) (L : List Nat) (f : Nat → va_E) (rh pa n cap : Nat) (pl : Nat → Option Nat) (ad aw : Nat → Nat) (vs : Nat → VV) (sy : Nat) (sa : Nat → Int32) (hL_rh : rh ∈ L) (hf_rh : f rh = eO 3 [.ref pa, .int (nI n)]) (hL_pa : pa ∈ L) (hf_pa : f pa = eV g cap pl) (hL_sy : sy ∈ L) (hf_sy : f sy = eI g 8 sa) (hcap : cap ≤ 20) (hn : n ≤ cap) (hpl : ∀ v, v < cap → pl v = some (ad v)) (hV : Vils g L f cap ad aw vs) : RO l g yX2_guessingRain wsX2_guessingRain 2 44 L f [.ref rh, .ref sy] (fun r => r = sumN (fun v => b2i (decide (0 < leadV sa (vs v)))) n) := by
  refine RO.start (cc := cX2_guessingRain) (maxL := 4) (ret := .int) (by decide +kernel) rfl (by simp [lg_sl, Value.category]) ?_
  intro p e s m args below meth c Q ls hx hb hml hts hown hP hK hl hend
  have hl : lv_has ls 4 [(0, .ref rh), (1, .ref sy)] := hl
  have hi_X2 : ∀ w ∈ u_ws RX2 TX2 2, w ∈ wsX2_guessingRain := by decide +kernel
  have n_rh_pa : rh ≠ pa := ne_e hf_rh hf_pa (by simp)
  have n_rh_sy : rh ≠ sy := ne_e hf_rh hf_sy (by simp)
  have n_pa_sy : pa ≠ sy := ne_e hf_pa hf_sy (by simp)
  refine lv_iconst (v := 0) hx hb dX2_guessingRain_0 (by decide) ?_
  refine lv_istore_n (lv' := [(2, .int 0), (0, .ref rh), (1, .ref sy)]) hx hb dX2_guessingRain_1 rfl hl (by decide) rfl (fun ls hl => ?_)
  refine lv_iconst (v := 0) hx hb dX2_guessingRain_2 (by decide) ?_
  refine lv_istore_n (lv' := [(3, .int 0), (2, .int 0), (0, .ref rh), (1, .ref sy)]) hx hb dX2_guessingRain_3 rfl hl (by decide) rfl (fun ls hl => ?_)
  have K4 : ∀ (n4 : Nat) (i : Nat) (acc : Int32), n - i < n4 → i ≤ n → acc = sumN (fun v => b2i (decide (0 < leadV sa (vs v)))) i → ∀ (ls : Array Slot), lv_has ls 4 [(3, .int (nI i)), (2, .int acc), (1, .ref sy), (0, .ref rh)] → W p l e ({ frames := 2, cells := 0, slots := 0, locals := 44 } : Room) s m args below meth c s.heap [] 0 0 Q (F0 m 4 ls []) := by
    intro n4
    induction n4 with
    | zero => intros; omega
    | succ n4 ih4 =>
      intro i acc hm4 hi ha ls hl
      refine lv_iload_n hx hb dX2_guessingRain_4 rfl (lv_at hl 0 rfl) ?_
      refine lv_aload_n hx hb dX2_guessingRain_5 rfl (lv_at hl 3 rfl) ?_
      refine pg_get (C := RX2) (T := TX2) (N := 2) hx hb hts hi_X2 hown hK hP hL_rh hf_rh rfl 1 (by decide) (hts (.fieldLink RX2 24 "BarometerLeague$VillageRow" "size" "I") (by decide +kernel)) (fun _ h9 => h9) rfl dX2_guessingRain_6 ?_
      refine lv_icmp_ge (tgt := 39) hx hb dX2_guessingRain_9 (by decide) (fun c9 => ?_) (fun c9 => ?_)
      · skip
        have c9 : n ≤ i := (nI_leI (a := n) (b := i) (by omega) (by omega)).mp (show nI n ≤ nI i from c9)
        refine lv_iload_n hx hb dX2_guessingRain_39 rfl (lv_at hl 1 rfl) ?_
        exact hend (acc) _ _ (by rw [ha, show i = n from (by omega)]) rfl dX2_guessingRain_40
      · skip
        have c9 : ¬ n ≤ i := fun h => c9 ((nI_leI (a := n) (b := i) (by omega) (by omega)).mpr h)
        refine lv_iload_n hx hb dX2_guessingRain_12 rfl (lv_at hl 1 rfl) ?_
        refine lv_aload_n hx hb dX2_guessingRain_13 rfl (lv_at hl 3 rfl) ?_
        refine pg_get (C := RX2) (T := TX2) (N := 2) hx hb hts hi_X2 hown hK hP hL_rh hf_rh rfl 0 (by decide) (hts (.fieldLink RX2 15 "BarometerLeague$VillageRow" "places" "[LBarometerLeague$Village;") (by decide +kernel)) (fun _ h9 => h9) rfl dX2_guessingRain_14 ?_
        refine lv_iload_n hx hb dX2_guessingRain_17 rfl (lv_at hl 0 rfl) ?_
        refine pn_vald (j := i) hx hb hK hP hL_pa hf_pa rfl (by omega) (Nat.lt_of_lt_of_le (m := 100) (by omega) (by omega)) (hpl i (by omega)) dX2_guessingRain_18 ?_
        have q18 := hV i (by omega)
        obtain ⟨hL_ad_i, hf_ad_i, hL_aw_i, hf_aw_i⟩ := q18
        refine lv_aload_n hx hb dX2_guessingRain_19 rfl (lv_at hl 2 rfl) ?_
        refine ro_V (As := [.ref sy]) (rest := [.int acc]) ⟨hx, hb, hml, hown, hts⟩ (m_X1_guessesRain l g L f _ _ _ _ _ _ _ _ _ hL_ad_i hf_ad_i hL_aw_i hf_aw_i hL_sy hf_sy) (cwV 1 hts gX2_guessingRain_X1_guessesRain rfl rfl rfl (by decide +kernel) ⟨Nat.le_of_ble_eq_true rfl, Nat.le_of_ble_eq_true rfl⟩) hK hP hL_ad_i hf_ad_i rfl rfl hl.1 rfl (Nat.le_of_ble_eq_true rfl) dX2_guessingRain_20 ⟨Nat.zero_le _, Nat.zero_le _⟩ (fun r20 hr20 => ?_)
        have hr20 : r20 = b2i (decide (0 < leadV sa (vs i))) := hr20
        subst hr20
        refine lv_if_eq (tgt := 30) hx hb dX2_guessingRain_23 (by decide) (fun c23 => ?_) (fun c23 => ?_)
        · skip
          refine lv_iconst (v := 0) hx hb dX2_guessingRain_30 (by decide) ?_
          refine lv_iadd hx hb dX2_guessingRain_31 ?_
          refine lv_topi (fun v31 ev31 => ?_)
          refine lv_istore_n (lv' := [(2, .int v31), (3, .int (nI i)), (1, .ref sy), (0, .ref rh)]) hx hb dX2_guessingRain_32 rfl hl (by decide) rfl (fun ls hl => ?_)
          refine lv_iinc (v := nI (i + 1)) (lv' := [(3, .int (nI (i + 1))), (2, .int v31), (1, .ref sy), (0, .ref rh)]) hx hb dX2_guessingRain_33 hl (k := 1) rfl (nI_1 _) (by decide) rfl (fun ls hl => ?_)
          refine lv_goto (tgt := 4) hx hb dX2_guessingRain_36 (by decide) ?_
          exact ih4 (i + 1) v31 (by omega) (by omega) (sumN_s ha (b2z c23 ev31)) ls (lv_sub hl [0, 1, 2, 3] rfl)
        · skip
          refine lv_iconst (v := 1) hx hb dX2_guessingRain_26 (by decide) ?_
          refine lv_goto (tgt := 31) hx hb dX2_guessingRain_27 (by decide) ?_
          refine lv_iadd hx hb dX2_guessingRain_31 ?_
          refine lv_topi (fun v31 ev31 => ?_)
          refine lv_istore_n (lv' := [(2, .int v31), (3, .int (nI i)), (1, .ref sy), (0, .ref rh)]) hx hb dX2_guessingRain_32 rfl hl (by decide) rfl (fun ls hl => ?_)
          refine lv_iinc (v := nI (i + 1)) (lv' := [(3, .int (nI (i + 1))), (2, .int v31), (1, .ref sy), (0, .ref rh)]) hx hb dX2_guessingRain_33 hl (k := 1) rfl (nI_1 _) (by decide) rfl (fun ls hl => ?_)
          refine lv_goto (tgt := 4) hx hb dX2_guessingRain_36 (by decide) ?_
          exact ih4 (i + 1) v31 (by omega) (by omega) (sumN_s ha (b2o c23 ev31)) ls (lv_sub hl [0, 1, 2, 3] rfl)
  exact K4 _ 0 0 (Nat.lt_succ_self _) (Nat.zero_le _) (rfl) ls (lv_sub hl [0, 1, 3, 2] rfl)

set_option maxHeartbeats 4000000 in
set_option maxRecDepth 100000 in
theorem m_X2_placeOf (l : Launch) (g : GG) (L : List Nat) (f : Nat → va_E) (rh pa n cap : Nat) (pl : Nat → Option Nat) (ad aw : Nat → Nat) (vs : Nat → VV) (q qw : Nat) (Vq : VV) (hL_rh : rh ∈ L) (hf_rh : f rh = eO 3 [.ref pa, .int (nI n)]) (hL_pa : pa ∈ L) (hf_pa : f pa = eV g cap pl) (hL_q : q ∈ L) (hf_q : f q = eO 2 [.ref qw, .int Vq.1, .int Vq.2.1, .int Vq.2.2.1, .int Vq.2.2.2.1]) (hcap : cap ≤ 20) (hn : n ≤ cap) (hpl : ∀ v, v < cap → pl v = some (ad v)) (hV : Vils g L f cap ad aw vs) : RO l g yX2_placeOf wsX2_placeOf 1 21 L f [.ref rh, .ref q] (fun r => r = placeV vs n Vq) := by
  refine RO.start (cc := cX2_placeOf) (maxL := 4) (ret := .int) (by decide +kernel) rfl (by simp [lg_sl, Value.category]) ?_
  intro p e s m args below meth c Q ls hx hb hml hts hown hP hK hl hend
  have hl : lv_has ls 4 [(0, .ref rh), (1, .ref q)] := hl
  have hi_X2 : ∀ w ∈ u_ws RX2 TX2 2, w ∈ wsX2_placeOf := by decide +kernel
  have n_rh_pa : rh ≠ pa := ne_e hf_rh hf_pa (by simp)
  have n_rh_q : rh ≠ q := ne_e hf_rh hf_q (by simp)
  have n_pa_q : pa ≠ q := ne_e hf_pa hf_q (by simp)
  refine lv_iconst (v := 1) hx hb dX2_placeOf_0 (by decide) ?_
  refine lv_istore_n (lv' := [(2, .int 1), (0, .ref rh), (1, .ref q)]) hx hb dX2_placeOf_1 rfl hl (by decide) rfl (fun ls hl => ?_)
  refine lv_iconst (v := 0) hx hb dX2_placeOf_2 (by decide) ?_
  refine lv_istore_n (lv' := [(3, .int 0), (2, .int 1), (0, .ref rh), (1, .ref q)]) hx hb dX2_placeOf_3 rfl hl (by decide) rfl (fun ls hl => ?_)
  have K4 : ∀ (n4 : Nat) (i : Nat) (acc : Int32), n - i < n4 → i ≤ n → acc = 1 + sumN (fun u => b2i (aheadV (vs u) Vq)) i → ∀ (ls : Array Slot), lv_has ls 4 [(3, .int (nI i)), (2, .int acc), (1, .ref q), (0, .ref rh)] → W p l e ({ frames := 1, cells := 0, slots := 0, locals := 21 } : Room) s m args below meth c s.heap [] 0 0 Q (F0 m 4 ls []) := by
    intro n4
    induction n4 with
    | zero => intros; omega
    | succ n4 ih4 =>
      intro i acc hm4 hi ha ls hl
      refine lv_iload_n hx hb dX2_placeOf_4 rfl (lv_at hl 0 rfl) ?_
      refine lv_aload_n hx hb dX2_placeOf_5 rfl (lv_at hl 3 rfl) ?_
      refine pg_get (C := RX2) (T := TX2) (N := 2) hx hb hts hi_X2 hown hK hP hL_rh hf_rh rfl 1 (by decide) (hts (.fieldLink RX2 24 "BarometerLeague$VillageRow" "size" "I") (by decide +kernel)) (fun _ h9 => h9) rfl dX2_placeOf_6 ?_
      refine lv_icmp_ge (tgt := 34) hx hb dX2_placeOf_9 (by decide) (fun c9 => ?_) (fun c9 => ?_)
      · skip
        have c9 : n ≤ i := (nI_leI (a := n) (b := i) (by omega) (by omega)).mp (show nI n ≤ nI i from c9)
        refine lv_iload_n hx hb dX2_placeOf_34 rfl (lv_at hl 1 rfl) ?_
        exact hend (acc) _ _ (by rw [ha, show i = n from (by omega)]; rfl) rfl dX2_placeOf_35
      · skip
        have c9 : ¬ n ≤ i := fun h => c9 ((nI_leI (a := n) (b := i) (by omega) (by omega)).mpr h)
        refine lv_aload_n hx hb dX2_placeOf_12 rfl (lv_at hl 3 rfl) ?_
        refine pg_get (C := RX2) (T := TX2) (N := 2) hx hb hts hi_X2 hown hK hP hL_rh hf_rh rfl 0 (by decide) (hts (.fieldLink RX2 15 "BarometerLeague$VillageRow" "places" "[LBarometerLeague$Village;") (by decide +kernel)) (fun _ h9 => h9) rfl dX2_placeOf_13 ?_
        refine lv_iload_n hx hb dX2_placeOf_16 rfl (lv_at hl 0 rfl) ?_
        refine pn_vald (j := i) hx hb hK hP hL_pa hf_pa rfl (by omega) (Nat.lt_of_lt_of_le (m := 100) (by omega) (by omega)) (hpl i (by omega)) dX2_placeOf_17 ?_
        have q17 := hV i (by omega)
        obtain ⟨hL_ad_i, hf_ad_i, hL_aw_i, hf_aw_i⟩ := q17
        refine lv_aload_n hx hb dX2_placeOf_18 rfl (lv_at hl 2 rfl) ?_
        refine ro_V (As := [.ref q]) (rest := []) ⟨hx, hb, hml, hown, hts⟩ (m_X1_isAheadOf l g L f _ _ _ _ _ _ _ _ _ _ _ _ hL_ad_i hf_ad_i hL_q hf_q) (cwV 1 hts gX2_placeOf_X1_isAheadOf rfl rfl rfl (by decide +kernel) ⟨Nat.le_of_ble_eq_true rfl, Nat.le_of_ble_eq_true rfl⟩) hK hP hL_ad_i hf_ad_i rfl rfl hl.1 rfl (Nat.le_of_ble_eq_true rfl) dX2_placeOf_19 ⟨Nat.zero_le _, Nat.zero_le _⟩ (fun r19 hr19 => ?_)
        have hr19 : r19 = b2i (aheadV (vs i) Vq) := hr19
        subst hr19
        refine lv_if_eq (tgt := 28) hx hb dX2_placeOf_22 (by decide) (fun c22 => ?_) (fun c22 => ?_)
        · skip
          refine lv_iinc (v := nI (i + 1)) (lv' := [(3, .int (nI (i + 1))), (2, .int acc), (1, .ref q), (0, .ref rh)]) hx hb dX2_placeOf_28 hl (k := 0) rfl (nI_1 _) (by decide) rfl (fun ls hl => ?_)
          refine lv_goto (tgt := 4) hx hb dX2_placeOf_31 (by decide) ?_
          exact ih4 (i + 1) acc (by omega) (by omega) (sum1_z ha c22) ls (lv_sub hl [0, 1, 2, 3] rfl)
        · skip
          obtain ⟨v25, ev25⟩ : ∃ y : Int32, y = acc + 1 := ⟨_, rfl⟩
          refine lv_iinc (v := v25) (lv' := [(2, .int v25), (3, .int (nI i)), (1, .ref q), (0, .ref rh)]) hx hb dX2_placeOf_25 hl (k := 1) rfl (by rw [ev25]; rfl) (by decide) rfl (fun ls hl => ?_)
          refine lv_iinc (v := nI (i + 1)) (lv' := [(3, .int (nI (i + 1))), (2, .int v25), (1, .ref q), (0, .ref rh)]) hx hb dX2_placeOf_28 hl (k := 1) rfl (nI_1 _) (by decide) rfl (fun ls hl => ?_)
          refine lv_goto (tgt := 4) hx hb dX2_placeOf_31 (by decide) ?_
          exact ih4 (i + 1) v25 (by omega) (by omega) (sum1_s ha (ev25.trans (congrArg (acc + ·) (bool1 ⟨_, rfl⟩ c22).symm))) ls (lv_sub hl [0, 1, 2, 3] rfl)
  exact K4 _ 0 1 (Nat.lt_succ_self _) (Nat.zero_le _) (rfl) ls (lv_sub hl [0, 1, 3, 2] rfl)

set_option maxHeartbeats 4000000 in
set_option maxRecDepth 100000 in
theorem m_X2_addCopy (l : Launch) (g : GG) (L : List Nat) (f : Nat → va_E) (sz : Nat) (hN : L.Nodup) (rh pa n cap : Nat) (pl : Nat → Option Nat) (ad aw : Nat → Nat) (vs : Nat → VV) (o ow : Nat) (Vo : VV) (hL_rh : rh ∈ L) (hf_rh : f rh = eO 3 [.ref pa, .int (nI n)]) (hL_pa : pa ∈ L) (hf_pa : f pa = eV g cap pl) (hL_o : o ∈ L) (hf_o : f o = eO 2 [.ref ow, .int Vo.1, .int Vo.2.1, .int Vo.2.2.1, .int Vo.2.2.2.1]) (hL_ow : ow ∈ L) (hf_ow : f ow = eI g 8 Vo.2.2.2.2) (hcap : cap ≤ 20) (hn : n < cap) (hpl : ∀ v, v < cap → pl v = some (ad v)) (hV : Vils g L f cap ad aw vs) (hD : Dst cap ad aw) (off_o : Off cap ad aw o) (off_ow : Off cap ad aw ow) : RV l g yX2_addCopy wsX2_addCopy 1 22 L f sz [.ref rh, .ref o] (fun f2 => f2 rh = eO 3 [.ref pa, .int (nI (n + 1))] ∧ Vils g L f2 cap ad aw (fun u => if u = n then Vo else vs u) ∧ Fr f f2 [rh, ad n, aw n]) := by
  refine RV.start (cc := cX2_addCopy) (maxL := 2) (by decide +kernel) rfl (by simp [lg_sl, Value.category]) ?_
  intro p e s m args below meth c Q ls A hx hb hml hts hown hA hA2 hS hP hK hl hend
  have hl : lv_has ls 2 [(0, .ref rh), (1, .ref o)] := hl
  have hi_X2 : ∀ w ∈ u_ws RX2 TX2 2, w ∈ wsX2_addCopy := by decide +kernel
  have hFr : Fr f f [rh, ad n, aw n] := Fr.rf
  have n_rh_pa : rh ≠ pa := ne_e hf_rh hf_pa (by simp)
  have n_rh_o : rh ≠ o := ne_e hf_rh hf_o (by simp)
  have n_rh_ow : rh ≠ ow := ne_e hf_rh hf_ow (by simp)
  have n_pa_o : pa ≠ o := ne_e hf_pa hf_o (by simp)
  have n_pa_ow : pa ≠ ow := ne_e hf_pa hf_ow (by simp)
  have n_o_ow : o ≠ ow := ne_e hf_o hf_ow (by simp)
  have h0f_rh := hf_rh
  have h0f_pa := hf_pa
  have h0f_o := hf_o
  have h0f_ow := hf_ow
  have off_rh : Off cap ad aw rh := Off.of hV hf_rh (by simp) (by simp)
  have off_pa : Off cap ad aw pa := Off.of hV hf_pa (by simp) (by simp)
  refine lv_aload_n hx hb dX2_addCopy_0 rfl (lv_at hl 0 rfl) ?_
  refine ro_V (As := []) (rest := []) ⟨hx, hb, hml, hown, hts⟩ (m_X2_isFull l g L f _ _ _ _ _ hL_rh hf_rh hL_pa hf_pa hcap (by omega)) (cwV 0 hts gX2_addCopy_X2_isFull rfl rfl rfl (by decide +kernel) ⟨Nat.le_of_ble_eq_true rfl, Nat.le_of_ble_eq_true rfl⟩) hK hP hL_rh hf_rh rfl rfl hl.1 rfl (Nat.le_of_ble_eq_true rfl) dX2_addCopy_1 ⟨Nat.zero_le _, Nat.zero_le _⟩ (fun r1 hr1 => ?_)
  have hr1 : r1 = b2i (decide (cap ≤ n)) := hr1
  subst hr1
  refine lv_if_ne (tgt := 30) hx hb dX2_addCopy_4 (by decide) (fun c4 => by exfalso; exact c4 (by rw [decide_eq_false (by omega)]; rfl)) (fun c4 => ?_)
  refine lv_aload_n hx hb dX2_addCopy_7 rfl (lv_at hl 0 rfl) ?_
  refine pg_get (C := RX2) (T := TX2) (N := 2) hx hb hts hi_X2 hown hK hP hL_rh hf_rh rfl 0 (by decide) (hts (.fieldLink RX2 15 "BarometerLeague$VillageRow" "places" "[LBarometerLeague$Village;") (by decide +kernel)) (fun _ h9 => h9) rfl dX2_addCopy_8 ?_
  refine lv_aload_n hx hb dX2_addCopy_11 rfl (lv_at hl 0 rfl) ?_
  refine pg_get (C := RX2) (T := TX2) (N := 2) hx hb hts hi_X2 hown hK hP hL_rh hf_rh rfl 1 (by decide) (hts (.fieldLink RX2 24 "BarometerLeague$VillageRow" "size" "I") (by decide +kernel)) (fun _ h9 => h9) rfl dX2_addCopy_12 ?_
  refine pn_vald (j := n) hx hb hK hP hL_pa hf_pa rfl (by omega) (Nat.lt_of_lt_of_le (m := 100) (by omega) (by omega)) (hpl n (by omega)) dX2_addCopy_15 ?_
  have q15 := hV n (by omega)
  obtain ⟨hL_ad_n, hf_ad_n, hL_aw_n, hf_aw_n⟩ := q15
  refine lv_aload_n hx hb dX2_addCopy_16 rfl (lv_at hl 1 rfl) ?_
  refine rv_V (As := [.ref o]) (rest := []) ⟨hx, hb, hml, hown, hts⟩ (m_X1_becomeLike l g L f _ hN _ _ _ _ _ _ _ _ _ _ _ _ _ _ hL_ad_n hf_ad_n hL_aw_n hf_aw_n hL_o hf_o hL_ow hf_ow (off_o n (by omega)).1.symm (off_ow n (by omega)).2.symm) (cwV 1 hts gX2_addCopy_X1_becomeLike rfl rfl rfl (by decide +kernel) ⟨Nat.le_of_ble_eq_true rfl, Nat.le_of_ble_eq_true rfl⟩) hK hP hA hA2 hS hL_ad_n hf_ad_n rfl rfl hl.1 rfl (Nat.le_of_ble_eq_true rfl) dX2_addCopy_17 ⟨Nat.zero_le _, Nat.zero_le _⟩ (fun f17 H locs hr17 hP hS => ?_)
  obtain ⟨hc17_0, hc17_1, hw17⟩ := hr17
  have hf_rh : f17 rh = eO 3 [.ref pa, .int (nI n)] := hw17.get hf_rh (nm_c (off_rh n (by omega)).1 (nm_c (off_rh n (by omega)).2 (List.not_mem_nil)))
  have hf_pa : f17 pa = eV g cap pl := hw17.get hf_pa (nm_c (off_pa n (by omega)).1 (nm_c (off_pa n (by omega)).2 (List.not_mem_nil)))
  have hf_o : f17 o = eO 2 [.ref ow, .int Vo.1, .int Vo.2.1, .int Vo.2.2.1, .int Vo.2.2.2.1] := hw17.get hf_o (nm_c (off_o n (by omega)).1 (nm_c (off_o n (by omega)).2 (List.not_mem_nil)))
  have hf_ow : f17 ow = eI g 8 Vo.2.2.2.2 := hw17.get hf_ow (nm_c (off_ow n (by omega)).1 (nm_c (off_ow n (by omega)).2 (List.not_mem_nil)))
  have hf_ad_n : f17 (ad n) = eO 2 [.ref (aw n), .int Vo.1, .int Vo.2.1, .int Vo.2.2.1, .int Vo.2.2.2.1] := hc17_0
  have hf_aw_n : f17 (aw n) = eI g 8 (mapN (fun j _ => Vo.2.2.2.2 j) (vs n).2.2.2.2 8) := hc17_1
  replace hFr : Fr f f17 [rh, ad n, aw n] := hFr.tr hw17 (by simp)
  have hP := PP.swap hP hf_aw_n (h2 := Vo.2.2.2.2) (fun j hj => mapN_lt hj)
  obtain ⟨f17_7, ef17_7⟩ : ∃ z, z = va_up f17 (aw n) (eI g 8 Vo.2.2.2.2) := ⟨_, rfl⟩
  replace hP : PP g L f17_7 H := by rw [ef17_7]; exact hP
  have hf_rh : f17_7 rh = eO 3 [.ref pa, .int (nI n)] := by rw [ef17_7, va_up_ne _ _ (off_rh n (by omega)).2]; exact hf_rh
  have hf_pa : f17_7 pa = eV g cap pl := by rw [ef17_7, va_up_ne _ _ (off_pa n (by omega)).2]; exact hf_pa
  have hf_o : f17_7 o = eO 2 [.ref ow, .int Vo.1, .int Vo.2.1, .int Vo.2.2.1, .int Vo.2.2.2.1] := by rw [ef17_7, va_up_ne _ _ (off_o n (by omega)).2]; exact hf_o
  have hf_ow : f17_7 ow = eI g 8 Vo.2.2.2.2 := by rw [ef17_7, va_up_ne _ _ (off_ow n (by omega)).2]; exact hf_ow
  have hf_ad_n : f17_7 (ad n) = eO 2 [.ref (aw n), .int Vo.1, .int Vo.2.1, .int Vo.2.2.1, .int Vo.2.2.2.1] := by rw [ef17_7, va_up_ne _ _ (ne_e hf_ad_n hf_aw_n (by simp))]; exact hf_ad_n
  have hf_aw_n : f17_7 (aw n) = eI g 8 Vo.2.2.2.2 := by rw [ef17_7]; exact va_up_self _ _ _
  replace hFr : Fr f f17_7 [rh, ad n, aw n] := by rw [ef17_7]; exact hFr.up (by simp)
  refine lv_aload_n hx hb dX2_addCopy_20 rfl (lv_at hl 0 rfl) ?_
  refine lv_dup hx hb dX2_addCopy_21 rfl ?_
  refine pg_get (C := RX2) (T := TX2) (N := 2) hx hb hts hi_X2 hown hK hP hL_rh hf_rh rfl 1 (by decide) (hts (.fieldLink RX2 24 "BarometerLeague$VillageRow" "size" "I") (by decide +kernel)) (fun _ h9 => h9) rfl dX2_addCopy_22 ?_
  refine lv_iconst (v := 1) hx hb dX2_addCopy_25 (by decide) ?_
  refine lv_iadd hx hb dX2_addCopy_26 ?_
  refine lv_topi (fun v26 ev26 => ?_)
  refine pg_put (ty := .int) (C := RX2) (T := TX2) (N := 2) hx hb hts hi_X2 tyX2 tyX2_ok nmX2 hown hK hP hN hA hS hL_rh hf_rh rfl 1 (by decide) (hts (.fieldLink RX2 24 "BarometerLeague$VillageRow" "size" "I") (by decide +kernel)) (fun _ h9 => h9) rfl (by decide +kernel) rfl rfl (Nat.le_of_ble_eq_true rfl) dX2_addCopy_27 (fun H locs hP hS => ?_)
  obtain ⟨f27, ef27⟩ : ∃ z, z = va_up f17_7 rh (eO 3 [.ref pa, .int v26]) := ⟨_, rfl⟩
  replace hP : PP g L f27 H := by rw [ef27]; exact hP
  have hf_pa : f27 pa = eV g cap pl := by rw [ef27, va_up_ne _ _ n_rh_pa.symm]; exact hf_pa
  have hf_o : f27 o = eO 2 [.ref ow, .int Vo.1, .int Vo.2.1, .int Vo.2.2.1, .int Vo.2.2.2.1] := by rw [ef27, va_up_ne _ _ n_rh_o.symm]; exact hf_o
  have hf_ow : f27 ow = eI g 8 Vo.2.2.2.2 := by rw [ef27, va_up_ne _ _ n_rh_ow.symm]; exact hf_ow
  have hf_ad_n : f27 (ad n) = eO 2 [.ref (aw n), .int Vo.1, .int Vo.2.1, .int Vo.2.2.1, .int Vo.2.2.2.1] := by rw [ef27, va_up_ne _ _ (off_rh n (by omega)).1.symm]; exact hf_ad_n
  have hf_aw_n : f27 (aw n) = eI g 8 Vo.2.2.2.2 := by rw [ef27, va_up_ne _ _ (off_rh n (by omega)).2.symm]; exact hf_aw_n
  have hf_rh : f27 rh = eO 3 [.ref pa, .int v26] := by rw [ef27]; exact va_up_self _ _ _
  replace hFr : Fr f f27 [rh, ad n, aw n] := by rw [ef27]; exact hFr.up (by simp)
  exact hend f27 _ _ _ _ (⟨by rw [hf_rh, ev26]; exact congrArg (fun z => eO 3 [.ref pa, .int z]) (nI_1 n), hV.set hD hn (Vo) hf_ad_n hf_aw_n (fun u hu hne => ⟨hFr _ (nm_c (off_rh u hu).1.symm (nm_c (hD u n hu hn hne).1 (nm_c (hV.ne hu hn) List.not_mem_nil))), hFr _ (nm_c (off_rh u hu).2.symm (nm_c (hV.ne hn hu).symm (nm_c (hD u n hu hn hne).2 List.not_mem_nil)))⟩), hFr⟩) hP hS dX2_addCopy_30

set_option maxHeartbeats 4000000 in
set_option maxRecDepth 100000 in
theorem m_X2_liveDay (l : Launch) (g : GG) (L : List Nat) (f : Nat → va_E) (sz : Nat) (hN : L.Nodup) (rh pa n cap : Nat) (pl : Nat → Option Nat) (ad aw : Nat → Nat) (vs : Nat → VV) (sy : Nat) (sa : Nat → Int32) (rb : Bool) (hL_rh : rh ∈ L) (hf_rh : f rh = eO 3 [.ref pa, .int (nI n)]) (hL_pa : pa ∈ L) (hf_pa : f pa = eV g cap pl) (hL_sy : sy ∈ L) (hf_sy : f sy = eI g 8 sa) (hcap : cap ≤ 20) (hn : n ≤ cap) (hpl : ∀ v, v < cap → pl v = some (ad v)) (hV : Vils g L f cap ad aw vs) (hD : Dst cap ad aw) (hsy : ∀ v, v < cap → sy ≠ aw v) : RW l g yX2_liveDay wsX2_liveDay 3 67 L f sz [.ref rh, .ref sy, .int (b2i rb)] (fun r f2 => r = sumN (fun v => b2i (hitV sa rb (vs v))) n ∧ Vils g L f2 cap ad aw (mapV (stepV sa rb) vs n) ∧ Fr2 f f2 cap ad aw) := by
  refine RW.start (cc := cX2_liveDay) (maxL := 5) (ret := .int) (by decide +kernel) rfl (by simp [lg_sl, Value.category]) ?_
  intro p e s m args below meth c Q ls A hx hb hml hts hown hA hA2 hS hP hK hl hend
  have hl : lv_has ls 5 [(0, .ref rh), (1, .ref sy), (2, .int (b2i rb))] := hl
  have hi_X2 : ∀ w ∈ u_ws RX2 TX2 2, w ∈ wsX2_liveDay := by decide +kernel
  have hFr : Fr2 f f cap ad aw := Fr2.rf
  have n_rh_pa : rh ≠ pa := ne_e hf_rh hf_pa (by simp)
  have n_rh_sy : rh ≠ sy := ne_e hf_rh hf_sy (by simp)
  have n_pa_sy : pa ≠ sy := ne_e hf_pa hf_sy (by simp)
  have h0f_rh := hf_rh
  have h0f_pa := hf_pa
  have h0f_sy := hf_sy
  have off_rh : Off cap ad aw rh := Off.of hV hf_rh (by simp) (by simp)
  have off_pa : Off cap ad aw pa := Off.of hV hf_pa (by simp) (by simp)
  have off_sy : Off cap ad aw sy := Off.ofI hV hf_sy hsy
  refine lv_iconst (v := 0) hx hb dX2_liveDay_0 (by decide) ?_
  refine lv_istore_n (lv' := [(3, .int 0), (0, .ref rh), (1, .ref sy), (2, .int (b2i rb))]) hx hb dX2_liveDay_1 rfl hl (by decide) rfl (fun ls hl => ?_)
  refine lv_iconst (v := 0) hx hb dX2_liveDay_2 (by decide) ?_
  refine lv_istore (lv' := [(4, .int 0), (3, .int 0), (0, .ref rh), (1, .ref sy), (2, .int (b2i rb))]) hx hb dX2_liveDay_3 hl (by decide) rfl (fun ls hl => ?_)
  have K5 : ∀ (n5 : Nat) (i : Nat) (acc : Int32) (f5 : Nat → va_E) (H : Heap) (locs : List Loc), n - i < n5 → i ≤ n → acc = sumN (fun v => b2i (hitV sa rb (vs v))) i → Vils g L f5 cap ad aw (mapV (stepV sa rb) vs i) → Fr2 f f5 cap ad aw → PP g L f5 H → va_S A s.heap H locs → ∀ (ls : Array Slot), lv_has ls 5 [(4, .int (nI i)), (3, .int acc), (2, .int (b2i rb)), (1, .ref sy), (0, .ref rh)] → W p l e ({ frames := 3, cells := 0, slots := 0, locals := 67 } : Room) s m args below meth c H locs 0 0 Q (F0 m 5 ls []) := by
    intro n5
    induction n5 with
    | zero => intros; omega
    | succ n5 ih5 =>
      intro i acc f5 H locs hm5 hi ha hV hFr hP hS ls hl
      have hf_rh : f5 rh = eO 3 [.ref pa, .int (nI n)] := hFr.get h0f_rh off_rh
      have hf_pa : f5 pa = eV g cap pl := hFr.get h0f_pa off_pa
      have hf_sy : f5 sy = eI g 8 sa := hFr.get h0f_sy off_sy
      refine lv_iload hx hb dX2_liveDay_5 (lv_at hl 0 rfl) ?_
      refine lv_aload_n hx hb dX2_liveDay_7 rfl (lv_at hl 4 rfl) ?_
      refine pg_get (C := RX2) (T := TX2) (N := 2) hx hb hts hi_X2 hown hK hP hL_rh hf_rh rfl 1 (by decide) (hts (.fieldLink RX2 24 "BarometerLeague$VillageRow" "size" "I") (by decide +kernel)) (fun _ h9 => h9) rfl dX2_liveDay_8 ?_
      refine lv_icmp_ge (tgt := 43) hx hb dX2_liveDay_11 (by decide) (fun c11 => ?_) (fun c11 => ?_)
      · skip
        have c11 : n ≤ i := (nI_leI (a := n) (b := i) (by omega) (by omega)).mp (show nI n ≤ nI i from c11)
        refine lv_iload_n hx hb dX2_liveDay_43 rfl (lv_at hl 1 rfl) ?_
        exact hend (acc) f5 _ _ _ _ (⟨by rw [ha, show i = n from (by omega)], by rw [show n = i from (by omega)]; exact hV, hFr⟩) hP hS rfl dX2_liveDay_44
      · skip
        have c11 : ¬ n ≤ i := fun h => c11 ((nI_leI (a := n) (b := i) (by omega) (by omega)).mpr h)
        refine lv_iload_n hx hb dX2_liveDay_14 rfl (lv_at hl 1 rfl) ?_
        refine lv_aload_n hx hb dX2_liveDay_15 rfl (lv_at hl 4 rfl) ?_
        refine pg_get (C := RX2) (T := TX2) (N := 2) hx hb hts hi_X2 hown hK hP hL_rh hf_rh rfl 0 (by decide) (hts (.fieldLink RX2 15 "BarometerLeague$VillageRow" "places" "[LBarometerLeague$Village;") (by decide +kernel)) (fun _ h9 => h9) rfl dX2_liveDay_16 ?_
        refine lv_iload hx hb dX2_liveDay_19 (lv_at hl 0 rfl) ?_
        refine pn_vald (j := i) hx hb hK hP hL_pa hf_pa rfl (by omega) (Nat.lt_of_lt_of_le (m := 100) (by omega) (by omega)) (hpl i (by omega)) dX2_liveDay_21 ?_
        have q21 := hV i (by omega)
        rw [mapV_at] at q21
        obtain ⟨hL_ad_i, hf_ad_i, hL_aw_i, hf_aw_i⟩ := q21
        refine lv_aload_n hx hb dX2_liveDay_22 rfl (lv_at hl 3 rfl) ?_
        refine lv_iload_n hx hb dX2_liveDay_23 rfl (lv_at hl 2 rfl) ?_
        refine rw_V (As := [.ref sy, .int (b2i rb)]) (rest := [.int acc]) ⟨hx, hb, hml, hown, hts⟩ (m_X1_liveDay l g L f5 _ hN _ _ _ _ _ _ _ _ _ rb hL_ad_i hf_ad_i hL_aw_i hf_aw_i hL_sy hf_sy (off_sy i (by omega)).2.symm) (cwV 2 hts gX2_liveDay_X1_liveDay rfl rfl rfl (by decide +kernel) ⟨Nat.le_of_ble_eq_true rfl, Nat.le_of_ble_eq_true rfl⟩) hK hP hA hA2 hS hL_ad_i hf_ad_i rfl rfl hl.1 rfl (Nat.le_of_ble_eq_true rfl) dX2_liveDay_24 ⟨Nat.zero_le _, Nat.zero_le _⟩ (fun r24 f24 H locs hr24 hP hS => ?_)
        obtain ⟨hv24, hc24_0, hc24_1, hw24⟩ := hr24
        have hf_rh : f24 rh = eO 3 [.ref pa, .int (nI n)] := hw24.get hf_rh (nm_c (off_rh i (by omega)).1 (nm_c (off_rh i (by omega)).2 (List.not_mem_nil)))
        have hf_pa : f24 pa = eV g cap pl := hw24.get hf_pa (nm_c (off_pa i (by omega)).1 (nm_c (off_pa i (by omega)).2 (List.not_mem_nil)))
        have hf_sy : f24 sy = eI g 8 sa := hw24.get hf_sy (nm_c (off_sy i (by omega)).1 (nm_c (off_sy i (by omega)).2 (List.not_mem_nil)))
        have hf_ad_i : f24 (ad i) = eO 2 [.ref (aw i), .int ((vs i).1), .int (((vs i).2.1) + b2i (hitB (leadN sa ((vs i).2.2.2.2) 8) rb)), .int (sell1 (if hitB (leadN sa ((vs i).2.2.2.2) 8) rb then ((vs i).2.2.2.1) + 1 else 0) ((vs i).2.2.1)), .int (if hitB (leadN sa ((vs i).2.2.2.2) 8) rb then ((vs i).2.2.2.1) + 1 else 0)] := hc24_0
        have hf_aw_i : f24 (aw i) = eI g 8 (mapN (fun j w => learn1 (truth rb) (sa j) w) ((vs i).2.2.2.2) 8) := hc24_1
        replace hFr : Fr2 f f24 cap ad aw := hFr.tr (v := i) (by omega) hw24
        have hV := (hV.set2 hD (v := i) (by omega) (stepV sa rb (vs i)) hf_ad_i hf_aw_i hw24).congr (vs2 := mapV (stepV sa rb) vs (i + 1)) (fun v _ => congrFun (mapV_s (stepV sa rb) vs i) v)
        subst hv24
        refine lv_if_eq (tgt := 34) hx hb dX2_liveDay_27 (by decide) (fun c27 => ?_) (fun c27 => ?_)
        · skip
          refine lv_iconst (v := 0) hx hb dX2_liveDay_34 (by decide) ?_
          refine lv_iadd hx hb dX2_liveDay_35 ?_
          refine lv_topi (fun v35 ev35 => ?_)
          refine lv_istore_n (lv' := [(3, .int v35), (4, .int (nI i)), (2, .int (b2i rb)), (1, .ref sy), (0, .ref rh)]) hx hb dX2_liveDay_36 rfl hl (by decide) rfl (fun ls hl => ?_)
          refine lv_iinc (v := nI (i + 1)) (lv' := [(4, .int (nI (i + 1))), (3, .int v35), (2, .int (b2i rb)), (1, .ref sy), (0, .ref rh)]) hx hb dX2_liveDay_37 hl (k := 1) rfl (nI_1 _) (by decide) rfl (fun ls hl => ?_)
          refine lv_goto (tgt := 5) hx hb dX2_liveDay_40 (by decide) ?_
          exact ih5 (i + 1) v35 f24 H locs (by omega) (by omega) (sumN_s ha (b2z c27 ev35)) (hV) hFr hP hS ls (lv_sub hl [0, 1, 2, 3, 4] rfl)
        · skip
          refine lv_iconst (v := 1) hx hb dX2_liveDay_30 (by decide) ?_
          refine lv_goto (tgt := 35) hx hb dX2_liveDay_31 (by decide) ?_
          refine lv_iadd hx hb dX2_liveDay_35 ?_
          refine lv_topi (fun v35 ev35 => ?_)
          refine lv_istore_n (lv' := [(3, .int v35), (4, .int (nI i)), (2, .int (b2i rb)), (1, .ref sy), (0, .ref rh)]) hx hb dX2_liveDay_36 rfl hl (by decide) rfl (fun ls hl => ?_)
          refine lv_iinc (v := nI (i + 1)) (lv' := [(4, .int (nI (i + 1))), (3, .int v35), (2, .int (b2i rb)), (1, .ref sy), (0, .ref rh)]) hx hb dX2_liveDay_37 hl (k := 1) rfl (nI_1 _) (by decide) rfl (fun ls hl => ?_)
          refine lv_goto (tgt := 5) hx hb dX2_liveDay_40 (by decide) ?_
          exact ih5 (i + 1) v35 f24 H locs (by omega) (by omega) (sumN_s ha (b2o c27 ev35)) (hV) hFr hP hS ls (lv_sub hl [0, 1, 2, 3, 4] rfl)
  exact K5 _ 0 0 f _ _ (Nat.lt_succ_self _) (Nat.zero_le _) (rfl) (by rw [mapV_0]; exact hV) hFr hP hS ls (lv_sub hl [0, 1, 4, 3, 2] rfl)
