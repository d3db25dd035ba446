set_option maxHeartbeats 4000000 in
set_option maxRecDepth 100000 in
theorem m_X1_weightOf (l : Launch) (g : GG) (L : List Nat) (f : Nat → va_E) (h0 w0 : Nat) (nu pt co ro : Int32) (wt : Nat → Int32) (j : Nat) (hL_h0 : h0 ∈ L) (hf_h0 : f h0 = eO 2 [.ref w0, .int nu, .int pt, .int co, .int ro]) (hL_w0 : w0 ∈ L) (hf_w0 : f w0 = eI g 8 wt) (hj : j < 8) : RO l g yX1_weightOf wsX1_weightOf 0 0 L f [.ref h0, .int (nI j)] (fun r => r = wt j) := by
  refine RO.start (cc := cX1_weightOf) (maxL := 2) (ret := .int) (by decide +kernel) rfl (by simp [lg_sl, Value.category]) ?_
  intro p e s m args below meth c Q ls hx hb hml hts hown hP hK hl hend
  have hl : lv_has ls 2 [(0, .ref h0), (1, .int (nI j))] := hl
  have hi_X1 : ∀ w ∈ u_ws RX1 TX1 5, w ∈ wsX1_weightOf := by decide +kernel
  have n_h0_w0 : h0 ≠ w0 := ne_e hf_h0 hf_w0 (by simp)
  refine lv_iload_n hx hb dX1_weightOf_0 rfl (lv_at hl 1 rfl) ?_
  refine lv_if_lt (tgt := 22) hx hb dX1_weightOf_1 (by decide) (fun c1 => by exfalso; have c1 := (nI_ltI (a := j) (b := 0) (by omega) (by omega)).mp (show nI j < nI 0 from c1); omega) (fun c1 => ?_)
  have c1 : ¬ j < 0 := fun h => c1 ((nI_ltI (a := j) (b := 0) (by omega) (by omega)).mpr h)
  refine lv_iload_n hx hb dX1_weightOf_4 rfl (lv_at hl 1 rfl) ?_
  refine lv_aload_n hx hb dX1_weightOf_5 rfl (lv_at hl 0 rfl) ?_
  refine pg_get (C := RX1) (T := TX1) (N := 5) hx hb hts hi_X1 hown hK hP hL_h0 hf_h0 rfl 0 (by decide) (hts (.fieldLink RX1 9 "BarometerLeague$Village" "weights" "[I") (by decide +kernel)) (fun _ h9 => h9) rfl dX1_weightOf_6 ?_
  refine pg_alen hx hb hK hP hL_w0 hf_w0 0 rfl (v := nI 8) rfl dX1_weightOf_9 ?_
  refine lv_icmp_ge (tgt := 22) hx hb dX1_weightOf_10 (by decide) (fun c10 => by exfalso; have c10 := (nI_leI (a := 8) (b := j) (by omega) (by omega)).mp (show nI 8 ≤ nI j from c10); omega) (fun c10 => ?_)
  have c10 : ¬ 8 ≤ j := fun h => c10 ((nI_leI (a := 8) (b := j) (by omega) (by omega)).mpr h)
  refine lv_aload_n hx hb dX1_weightOf_13 rfl (lv_at hl 0 rfl) ?_
  refine pg_get (C := RX1) (T := TX1) (N := 5) hx hb hts hi_X1 hown hK hP hL_h0 hf_h0 rfl 0 (by decide) (hts (.fieldLink RX1 9 "BarometerLeague$Village" "weights" "[I") (by decide +kernel)) (fun _ h9 => h9) rfl dX1_weightOf_14 ?_
  refine lv_iload_n hx hb dX1_weightOf_17 rfl (lv_at hl 1 rfl) ?_
  refine pn_iald (j := j) hx hb hK hP hL_w0 hf_w0 rfl (by omega) (Nat.lt_of_lt_of_le (m := 100) (by omega) (by omega)) dX1_weightOf_18 ?_
  refine lv_goto (tgt := 23) hx hb dX1_weightOf_19 (by decide) ?_
  exact hend (wt j) _ _ (rfl) rfl dX1_weightOf_23

set_option maxHeartbeats 4000000 in
set_option maxRecDepth 100000 in
theorem m_X1_putWeight (l : Launch) (g : GG) (L : List Nat) (f : Nat → va_E) (sz : Nat) (hN : L.Nodup) (h0 w0 : Nat) (nu pt co ro : Int32) (wt : Nat → Int32) (j : Nat) (x : Int32) (hL_h0 : h0 ∈ L) (hf_h0 : f h0 = eO 2 [.ref w0, .int nu, .int pt, .int co, .int ro]) (hL_w0 : w0 ∈ L) (hf_w0 : f w0 = eI g 8 wt) (hj : j < 8) : RV l g yX1_putWeight wsX1_putWeight 0 0 L f sz [.ref h0, .int (nI j), .int x] (fun f2 => f2 w0 = eI g 8 (upd wt j x) ∧ Fr f f2 [w0]) := by
  refine RV.start (cc := cX1_putWeight) (maxL := 3) (by decide +kernel) rfl (by simp [lg_sl, Value.category]) ?_
  intro p e s m args below meth c Q ls A hx hb hml hts hown hA hA2 hS hP hK hl hend
  have hl : lv_has ls 3 [(0, .ref h0), (1, .int (nI j)), (2, .int x)] := hl
  have hi_X1 : ∀ w ∈ u_ws RX1 TX1 5, w ∈ wsX1_putWeight := by decide +kernel
  have hFr : Fr f f [w0] := Fr.rf
  have n_h0_w0 : h0 ≠ w0 := ne_e hf_h0 hf_w0 (by simp)
  have h0f_h0 := hf_h0
  have h0f_w0 := hf_w0
  refine lv_iload_n hx hb dX1_putWeight_0 rfl (lv_at hl 1 rfl) ?_
  refine lv_if_lt (tgt := 20) hx hb dX1_putWeight_1 (by decide) (fun c1 => by exfalso; have c1 := (nI_ltI (a := j) (b := 0) (by omega) (by omega)).mp (show nI j < nI 0 from c1); omega) (fun c1 => ?_)
  have c1 : ¬ j < 0 := fun h => c1 ((nI_ltI (a := j) (b := 0) (by omega) (by omega)).mpr h)
  refine lv_iload_n hx hb dX1_putWeight_4 rfl (lv_at hl 1 rfl) ?_
  refine lv_aload_n hx hb dX1_putWeight_5 rfl (lv_at hl 0 rfl) ?_
  refine pg_get (C := RX1) (T := TX1) (N := 5) hx hb hts hi_X1 hown hK hP hL_h0 hf_h0 rfl 0 (by decide) (hts (.fieldLink RX1 9 "BarometerLeague$Village" "weights" "[I") (by decide +kernel)) (fun _ h9 => h9) rfl dX1_putWeight_6 ?_
  refine pg_alen hx hb hK hP hL_w0 hf_w0 0 rfl (v := nI 8) rfl dX1_putWeight_9 ?_
  refine lv_icmp_ge (tgt := 20) hx hb dX1_putWeight_10 (by decide) (fun c10 => by exfalso; have c10 := (nI_leI (a := 8) (b := j) (by omega) (by omega)).mp (show nI 8 ≤ nI j from c10); omega) (fun c10 => ?_)
  have c10 : ¬ 8 ≤ j := fun h => c10 ((nI_leI (a := 8) (b := j) (by omega) (by omega)).mpr h)
  refine lv_aload_n hx hb dX1_putWeight_13 rfl (lv_at hl 0 rfl) ?_
  refine pg_get (C := RX1) (T := TX1) (N := 5) hx hb hts hi_X1 hown hK hP hL_h0 hf_h0 rfl 0 (by decide) (hts (.fieldLink RX1 9 "BarometerLeague$Village" "weights" "[I") (by decide +kernel)) (fun _ h9 => h9) rfl dX1_putWeight_14 ?_
  refine lv_iload_n hx hb dX1_putWeight_17 rfl (lv_at hl 1 rfl) ?_
  refine lv_iload_n hx hb dX1_putWeight_18 rfl (lv_at hl 2 rfl) ?_
  refine pn_iast (j := j) hx hb hK hP hN hA hS hL_w0 hf_w0 rfl (by omega) (Nat.lt_of_lt_of_le (m := 100) (by omega) (by omega)) dX1_putWeight_19 (fun H locs hP hS => ?_)
  obtain ⟨f19, ef19⟩ : ∃ z, z = va_up f w0 (eI g 8 (upd wt j x)) := ⟨_, rfl⟩
  replace hP : PP g L f19 H := by rw [ef19]; exact hP
  have hf_h0 : f19 h0 = eO 2 [.ref w0, .int nu, .int pt, .int co, .int ro] := by rw [ef19, va_up_ne _ _ n_h0_w0]; exact hf_h0
  have hf_w0 : f19 w0 = eI g 8 (upd wt j x) := by rw [ef19]; exact va_up_self _ _ _
  replace hFr : Fr f f19 [w0] := by rw [ef19]; exact hFr.up (by simp)
  exact hend f19 _ _ _ _ (⟨hf_w0, hFr⟩) hP hS dX1_putWeight_20

set_option maxHeartbeats 4000000 in
set_option maxRecDepth 100000 in
theorem m_X1_allWeights (l : Launch) (g : GG) (L : List Nat) (f : Nat → va_E) (h0 w0 : Nat) (nu pt co ro : Int32) (wt : Nat → Int32) (k : Nat) (hL_h0 : h0 ∈ L) (hf_h0 : f h0 = eO 2 [.ref w0, .int nu, .int pt, .int co, .int ro]) (hL_w0 : w0 ∈ L) (hf_w0 : f w0 = eI g 8 wt) (hk : k ≤ 8) : RO l g yX1_allWeights wsX1_allWeights 0 0 L f [.ref h0, .int (nI k)] (fun r => r = sumN wt k) := by
  refine RO.start (cc := cX1_allWeights) (maxL := 4) (ret := .int) (by decide +kernel) rfl (by simp [lg_sl, Value.category]) ?_
  intro p e s m args below meth c Q ls hx hb hml hts hown hP hK hl hend
  have hl : lv_has ls 4 [(0, .ref h0), (1, .int (nI k))] := hl
  have hi_X1 : ∀ w ∈ u_ws RX1 TX1 5, w ∈ wsX1_allWeights := by decide +kernel
  have n_h0_w0 : h0 ≠ w0 := ne_e hf_h0 hf_w0 (by simp)
  refine lv_iconst (v := 0) hx hb dX1_allWeights_0 (by decide) ?_
  refine lv_istore_n (lv' := [(2, .int 0), (0, .ref h0), (1, .int (nI k))]) hx hb dX1_allWeights_1 rfl hl (by decide) rfl (fun ls hl => ?_)
  refine lv_iconst (v := 0) hx hb dX1_allWeights_2 (by decide) ?_
  refine lv_istore_n (lv' := [(3, .int 0), (2, .int 0), (0, .ref h0), (1, .int (nI k))]) hx hb dX1_allWeights_3 rfl hl (by decide) rfl (fun ls hl => ?_)
  have K4 : ∀ (n4 : Nat) (i : Nat) (acc : Int32), k - i < n4 → i ≤ k → acc = sumN wt i → ∀ (ls : Array Slot), lv_has ls 4 [(3, .int (nI i)), (2, .int acc), (1, .int (nI k)), (0, .ref h0)] → W p l e ({ frames := 0, cells := 0, slots := 0, locals := 0 } : Room) s m args below meth c s.heap [] 0 0 Q (F0 m 4 ls []) := by
    intro n4
    induction n4 with
    | zero => intros; omega
    | succ n4 ih4 =>
      intro i acc hm4 hi ha ls hl
      refine lv_iload_n hx hb dX1_allWeights_4 rfl (lv_at hl 0 rfl) ?_
      refine lv_iload_n hx hb dX1_allWeights_5 rfl (lv_at hl 2 rfl) ?_
      refine lv_icmp_ge (tgt := 33) hx hb dX1_allWeights_6 (by decide) (fun c6 => ?_) (fun c6 => ?_)
      · skip
        have c6 : k ≤ i := (nI_leI (a := k) (b := i) (by omega) (by omega)).mp (show nI k ≤ nI i from c6)
        refine lv_iload_n hx hb dX1_allWeights_33 rfl (lv_at hl 1 rfl) ?_
        exact hend (acc) _ _ (by rw [ha, show i = k from (by omega)]) rfl dX1_allWeights_34
      · skip
        have c6 : ¬ k ≤ i := fun h => c6 ((nI_leI (a := k) (b := i) (by omega) (by omega)).mpr h)
        refine lv_iload_n hx hb dX1_allWeights_9 rfl (lv_at hl 0 rfl) ?_
        refine lv_aload_n hx hb dX1_allWeights_10 rfl (lv_at hl 3 rfl) ?_
        refine pg_get (C := RX1) (T := TX1) (N := 5) hx hb hts hi_X1 hown hK hP hL_h0 hf_h0 rfl 0 (by decide) (hts (.fieldLink RX1 9 "BarometerLeague$Village" "weights" "[I") (by decide +kernel)) (fun _ h9 => h9) rfl dX1_allWeights_11 ?_
        refine pg_alen hx hb hK hP hL_w0 hf_w0 0 rfl (v := nI 8) rfl dX1_allWeights_14 ?_
        refine lv_icmp_ge (tgt := 33) hx hb dX1_allWeights_15 (by decide) (fun c15 => by exfalso; have c15 := (nI_leI (a := 8) (b := i) (by omega) (by omega)).mp (show nI 8 ≤ nI i from c15); omega) (fun c15 => ?_)
        have c15 : ¬ 8 ≤ i := fun h => c15 ((nI_leI (a := 8) (b := i) (by omega) (by omega)).mpr h)
        refine lv_iload_n hx hb dX1_allWeights_18 rfl (lv_at hl 1 rfl) ?_
        refine lv_aload_n hx hb dX1_allWeights_19 rfl (lv_at hl 3 rfl) ?_
        refine pg_get (C := RX1) (T := TX1) (N := 5) hx hb hts hi_X1 hown hK hP hL_h0 hf_h0 rfl 0 (by decide) (hts (.fieldLink RX1 9 "BarometerLeague$Village" "weights" "[I") (by decide +kernel)) (fun _ h9 => h9) rfl dX1_allWeights_20 ?_
        refine lv_iload_n hx hb dX1_allWeights_23 rfl (lv_at hl 0 rfl) ?_
        refine pn_iald (j := i) hx hb hK hP hL_w0 hf_w0 rfl (by omega) (Nat.lt_of_lt_of_le (m := 100) (by omega) (by omega)) dX1_allWeights_24 ?_
        refine lv_iadd hx hb dX1_allWeights_25 ?_
        refine lv_topi (fun v25 ev25 => ?_)
        refine lv_istore_n (lv' := [(2, .int v25), (3, .int (nI i)), (1, .int (nI k)), (0, .ref h0)]) hx hb dX1_allWeights_26 rfl hl (by decide) rfl (fun ls hl => ?_)
        refine lv_iinc (v := nI (i + 1)) (lv' := [(3, .int (nI (i + 1))), (2, .int v25), (1, .int (nI k)), (0, .ref h0)]) hx hb dX1_allWeights_27 hl (k := 1) rfl (nI_1 _) (by decide) rfl (fun ls hl => ?_)
        refine lv_goto (tgt := 4) hx hb dX1_allWeights_30 (by decide) ?_
        exact ih4 (i + 1) v25 (by omega) (by omega) (sumN_s ha ev25) ls (lv_sub hl [0, 1, 2, 3] rfl)
  exact K4 _ 0 0 (Nat.lt_succ_self _) (Nat.zero_le _) (rfl) ls (lv_sub hl [0, 1, 3, 2] rfl)

set_option maxHeartbeats 4000000 in
set_option maxRecDepth 100000 in
theorem m_X1_leadOfRain (l : Launch) (g : GG) (L : List Nat) (f : Nat → va_E) (h0 w0 : Nat) (nu pt co ro : Int32) (wt : Nat → Int32) (sy : Nat) (sa : Nat → Int32) (hL_h0 : h0 ∈ L) (hf_h0 : f h0 = eO 2 [.ref w0, .int nu, .int pt, .int co, .int ro]) (hL_w0 : w0 ∈ L) (hf_w0 : f w0 = eI g 8 wt) (hL_sy : sy ∈ L) (hf_sy : f sy = eI g 8 sa) : RO l g yX1_leadOfRain wsX1_leadOfRain 0 0 L f [.ref h0, .ref sy] (fun r => r = leadN sa wt 8) := by
  refine RO.start (cc := cX1_leadOfRain) (maxL := 4) (ret := .int) (by decide +kernel) rfl (by simp [lg_sl, Value.category]) ?_
  intro p e s m args below meth c Q ls hx hb hml hts hown hP hK hl hend
  have hl : lv_has ls 4 [(0, .ref h0), (1, .ref sy)] := hl
  have hi_X1 : ∀ w ∈ u_ws RX1 TX1 5, w ∈ wsX1_leadOfRain := by decide +kernel
  have n_h0_w0 : h0 ≠ w0 := ne_e hf_h0 hf_w0 (by simp)
  have n_h0_sy : h0 ≠ sy := ne_e hf_h0 hf_sy (by simp)
  refine lv_iconst (v := 0) hx hb dX1_leadOfRain_0 (by decide) ?_
  refine lv_istore_n (lv' := [(2, .int 0), (0, .ref h0), (1, .ref sy)]) hx hb dX1_leadOfRain_1 rfl hl (by decide) rfl (fun ls hl => ?_)
  refine lv_iconst (v := 0) hx hb dX1_leadOfRain_2 (by decide) ?_
  refine lv_istore_n (lv' := [(3, .int 0), (2, .int 0), (0, .ref h0), (1, .ref sy)]) hx hb dX1_leadOfRain_3 rfl hl (by decide) rfl (fun ls hl => ?_)
  have K4 : ∀ (n4 : Nat) (i : Nat) (acc : Int32), 8 - i < n4 → i ≤ 8 → acc = leadN sa wt i → ∀ (ls : Array Slot), lv_has ls 4 [(3, .int (nI i)), (2, .int acc), (1, .ref sy), (0, .ref h0)] → W p l e ({ frames := 0, cells := 0, slots := 0, locals := 0 } : Room) s m args below meth c s.heap [] 0 0 Q (F0 m 4 ls []) := by
    intro n4
    induction n4 with
    | zero => intros; omega
    | succ n4 ih4 =>
      intro i acc hm4 hi ha ls hl
      refine lv_iload_n hx hb dX1_leadOfRain_4 rfl (lv_at hl 0 rfl) ?_
      refine lv_aload_n hx hb dX1_leadOfRain_5 rfl (lv_at hl 2 rfl) ?_
      refine pg_alen hx hb hK hP hL_sy hf_sy 0 rfl (v := nI 8) rfl dX1_leadOfRain_6 ?_
      refine lv_icmp_ge (tgt := 38) hx hb dX1_leadOfRain_7 (by decide) (fun c7 => ?_) (fun c7 => ?_)
      · skip
        have c7 : 8 ≤ i := (nI_leI (a := 8) (b := i) (by omega) (by omega)).mp (show nI 8 ≤ nI i from c7)
        refine lv_iload_n hx hb dX1_leadOfRain_38 rfl (lv_at hl 1 rfl) ?_
        exact hend (acc) _ _ (by rw [ha, show i = 8 from (by omega)]) rfl dX1_leadOfRain_39
      · skip
        have c7 : ¬ 8 ≤ i := fun h => c7 ((nI_leI (a := 8) (b := i) (by omega) (by omega)).mpr h)
        refine lv_iload_n hx hb dX1_leadOfRain_10 rfl (lv_at hl 0 rfl) ?_
        refine lv_aload_n hx hb dX1_leadOfRain_11 rfl (lv_at hl 3 rfl) ?_
        refine pg_get (C := RX1) (T := TX1) (N := 5) hx hb hts hi_X1 hown hK hP hL_h0 hf_h0 rfl 0 (by decide) (hts (.fieldLink RX1 9 "BarometerLeague$Village" "weights" "[I") (by decide +kernel)) (fun _ h9 => h9) rfl dX1_leadOfRain_12 ?_
        refine pg_alen hx hb hK hP hL_w0 hf_w0 0 rfl (v := nI 8) rfl dX1_leadOfRain_15 ?_
        refine lv_icmp_ge (tgt := 38) hx hb dX1_leadOfRain_16 (by decide) (fun c16 => ?_) (fun c16 => ?_)
        · skip
          have c16 : 8 ≤ i := (nI_leI (a := 8) (b := i) (by omega) (by omega)).mp (show nI 8 ≤ nI i from c16)
          refine lv_iload_n hx hb dX1_leadOfRain_38 rfl (lv_at hl 1 rfl) ?_
          exact hend (acc) _ _ (by rw [ha, show i = 8 from (by omega)]) rfl dX1_leadOfRain_39
        · skip
          have c16 : ¬ 8 ≤ i := fun h => c16 ((nI_leI (a := 8) (b := i) (by omega) (by omega)).mpr h)
          refine lv_iload_n hx hb dX1_leadOfRain_19 rfl (lv_at hl 1 rfl) ?_
          refine lv_aload_n hx hb dX1_leadOfRain_20 rfl (lv_at hl 2 rfl) ?_
          refine lv_iload_n hx hb dX1_leadOfRain_21 rfl (lv_at hl 0 rfl) ?_
          refine pn_iald (j := i) hx hb hK hP hL_sy hf_sy rfl (by omega) (Nat.lt_of_lt_of_le (m := 100) (by omega) (by omega)) dX1_leadOfRain_22 ?_
          refine lv_aload_n hx hb dX1_leadOfRain_23 rfl (lv_at hl 3 rfl) ?_
          refine pg_get (C := RX1) (T := TX1) (N := 5) hx hb hts hi_X1 hown hK hP hL_h0 hf_h0 rfl 0 (by decide) (hts (.fieldLink RX1 9 "BarometerLeague$Village" "weights" "[I") (by decide +kernel)) (fun _ h9 => h9) rfl dX1_leadOfRain_24 ?_
          refine lv_iload_n hx hb dX1_leadOfRain_27 rfl (lv_at hl 0 rfl) ?_
          refine pn_iald (j := i) hx hb hK hP hL_w0 hf_w0 rfl (by omega) (Nat.lt_of_lt_of_le (m := 100) (by omega) (by omega)) dX1_leadOfRain_28 ?_
          refine lv_imul hx hb dX1_leadOfRain_29 ?_
          refine lv_topi (fun v29 ev29 => ?_)
          refine lv_iadd hx hb dX1_leadOfRain_30 ?_
          refine lv_topi (fun v30 ev30 => ?_)
          refine lv_istore_n (lv' := [(2, .int v30), (3, .int (nI i)), (1, .ref sy), (0, .ref h0)]) hx hb dX1_leadOfRain_31 rfl hl (by decide) rfl (fun ls hl => ?_)
          refine lv_iinc (v := nI (i + 1)) (lv' := [(3, .int (nI (i + 1))), (2, .int v30), (1, .ref sy), (0, .ref h0)]) hx hb dX1_leadOfRain_32 hl (k := 1) rfl (nI_1 _) (by decide) rfl (fun ls hl => ?_)
          refine lv_goto (tgt := 4) hx hb dX1_leadOfRain_35 (by decide) ?_
          exact ih4 (i + 1) v30 (by omega) (by omega) (sumN_s ha (by rw [ev30, ev29])) ls (lv_sub hl [0, 1, 2, 3] rfl)
  exact K4 _ 0 0 (Nat.lt_succ_self _) (Nat.zero_le _) (rfl) ls (lv_sub hl [0, 1, 3, 2] rfl)

set_option maxHeartbeats 4000000 in
set_option maxRecDepth 100000 in
theorem m_X1_guessesRain (l : Launch) (g : GG) (L : List Nat) (f : Nat → va_E) (h0 w0 : Nat) (nu pt co ro : Int32) (wt : Nat → Int32) (sy : Nat) (sa : Nat → Int32) (hL_h0 : h0 ∈ L) (hf_h0 : f h0 = eO 2 [.ref w0, .int nu, .int pt, .int co, .int ro]) (hL_w0 : w0 ∈ L) (hf_w0 : f w0 = eI g 8 wt) (hL_sy : sy ∈ L) (hf_sy : f sy = eI g 8 sa) : RO l g yX1_guessesRain wsX1_guessesRain 1 23 L f [.ref h0, .ref sy] (fun r => r = b2i (decide (0 < leadN sa wt 8))) := by
  refine RO.start (cc := cX1_guessesRain) (maxL := 2) (ret := .boolean) (by decide +kernel) rfl (by simp [lg_sl, Value.category]) ?_
  intro p e s m args below meth c Q ls hx hb hml hts hown hP hK hl hend
  have hl : lv_has ls 2 [(0, .ref h0), (1, .ref sy)] := hl
  have n_h0_w0 : h0 ≠ w0 := ne_e hf_h0 hf_w0 (by simp)
  have n_h0_sy : h0 ≠ sy := ne_e hf_h0 hf_sy (by simp)
  refine lv_aload_n hx hb dX1_guessesRain_0 rfl (lv_at hl 0 rfl) ?_
  refine lv_aload_n hx hb dX1_guessesRain_1 rfl (lv_at hl 1 rfl) ?_
  refine ro_V (As := [.ref sy]) (rest := []) ⟨hx, hb, hml, hown, hts⟩ (m_X1_leadOfRain l g L f _ _ _ _ _ _ _ _ _ hL_h0 hf_h0 hL_w0 hf_w0 hL_sy hf_sy) (cwV 1 hts gX1_guessesRain_X1_leadOfRain rfl rfl rfl (by decide +kernel) ⟨Nat.le_of_ble_eq_true rfl, Nat.le_of_ble_eq_true rfl⟩) hK hP hL_h0 hf_h0 rfl rfl hl.1 rfl (Nat.le_of_ble_eq_true rfl) dX1_guessesRain_2 ⟨Nat.zero_le _, Nat.zero_le _⟩ (fun r2 hr2 => ?_)
  have hr2 : r2 = leadN sa wt 8 := hr2
  subst hr2
  refine lv_if_le (tgt := 12) hx hb dX1_guessesRain_5 (by decide) (fun c5 => ?_) (fun c5 => ?_)
  · skip
    refine lv_iconst (v := 0) hx hb dX1_guessesRain_12 (by decide) ?_
    exact hend (0) _ _ (bf rfl (Int32.not_lt.mpr c5)) rfl dX1_guessesRain_13
  · skip
    refine lv_iconst (v := 1) hx hb dX1_guessesRain_8 (by decide) ?_
    refine lv_goto (tgt := 13) hx hb dX1_guessesRain_9 (by decide) ?_
    exact hend (1) _ _ (bt rfl (Int32.not_le.mp c5)) rfl dX1_guessesRain_13

set_option maxHeartbeats 4000000 in
set_option maxRecDepth 100000 in
theorem m_X1_learn (l : Launch) (g : GG) (L : List Nat) (f : Nat → va_E) (sz : Nat) (hN : L.Nodup) (h0 w0 : Nat) (nu pt co ro : Int32) (wt : Nat → Int32) (sy : Nat) (sa : Nat → Int32) (t : Int32) (hL_h0 : h0 ∈ L) (hf_h0 : f h0 = eO 2 [.ref w0, .int nu, .int pt, .int co, .int ro]) (hL_w0 : w0 ∈ L) (hf_w0 : f w0 = eI g 8 wt) (hL_sy : sy ∈ L) (hf_sy : f sy = eI g 8 sa) (n_w0_sy : w0 ≠ sy) : RV l g yX1_learn wsX1_learn 1 21 L f sz [.ref h0, .ref sy, .int t] (fun f2 => f2 w0 = eI g 8 (mapN (fun j w => learn1 t (sa j) w) wt 8) ∧ Fr f f2 [w0]) := by
  refine RV.start (cc := cX1_learn) (maxL := 4) (by decide +kernel) rfl (by simp [lg_sl, Value.category]) ?_
  intro p e s m args below meth c Q ls A hx hb hml hts hown hA hA2 hS hP hK hl hend
  have hl : lv_has ls 4 [(0, .ref h0), (1, .ref sy), (2, .int t)] := hl
  have hi_X1 : ∀ w ∈ u_ws RX1 TX1 5, w ∈ wsX1_learn := by decide +kernel
  have hFr : Fr f f [w0] := Fr.rf
  have n_h0_w0 : h0 ≠ w0 := ne_e hf_h0 hf_w0 (by simp)
  have n_h0_sy : h0 ≠ sy := ne_e hf_h0 hf_sy (by simp)
  have h0f_h0 := hf_h0
  have h0f_w0 := hf_w0
  have h0f_sy := hf_sy
  refine lv_iconst (v := 0) hx hb dX1_learn_0 (by decide) ?_
  refine lv_istore_n (lv' := [(3, .int 0), (0, .ref h0), (1, .ref sy), (2, .int t)]) hx hb dX1_learn_1 rfl hl (by decide) rfl (fun ls hl => ?_)
  have hf_w0 : f w0 = eI g 8 (mapN (fun j w => learn1 t (sa j) w) wt 0) := by rw [hf_w0, mapN_0]
  have K2 : ∀ (n2 : Nat) (i : Nat) (f2 : Nat → va_E) (H : Heap) (locs : List Loc), 8 - i < n2 → i ≤ 8 → f2 w0 = eI g 8 (mapN (fun j w => learn1 t (sa j) w) wt i) → Fr f f2 [w0] → PP g L f2 H → va_S A s.heap H locs → ∀ (ls : Array Slot), lv_has ls 4 [(3, .int (nI i)), (2, .int t), (1, .ref sy), (0, .ref h0)] → W p l e ({ frames := 1, cells := 0, slots := 0, locals := 21 } : Room) s m args below meth c H locs 0 0 Q (F0 m 2 ls []) := by
    intro n2
    induction n2 with
    | zero => intros; omega
    | succ n2 ih2 =>
      intro i f2 H locs hm2 hi hq2_0 hFr hP hS ls hl
      have hf_h0 : f2 h0 = eO 2 [.ref w0, .int nu, .int pt, .int co, .int ro] := hFr.get h0f_h0 (nm_c n_h0_w0 (List.not_mem_nil))
      have hf_sy : f2 sy = eI g 8 sa := hFr.get h0f_sy (nm_c n_w0_sy.symm (List.not_mem_nil))
      have hf_w0 : f2 w0 = eI g 8 (mapN (fun j w => learn1 t (sa j) w) wt i) := hq2_0
      refine lv_iload_n hx hb dX1_learn_2 rfl (lv_at hl 0 rfl) ?_
      refine lv_aload_n hx hb dX1_learn_3 rfl (lv_at hl 3 rfl) ?_
      refine pg_get (C := RX1) (T := TX1) (N := 5) hx hb hts hi_X1 hown hK hP hL_h0 hf_h0 rfl 0 (by decide) (hts (.fieldLink RX1 9 "BarometerLeague$Village" "weights" "[I") (by decide +kernel)) (fun _ h9 => h9) rfl dX1_learn_4 ?_
      refine pg_alen hx hb hK hP hL_w0 hf_w0 0 rfl (v := nI 8) rfl dX1_learn_7 ?_
      refine lv_icmp_ge (tgt := 79) hx hb dX1_learn_8 (by decide) (fun c8 => ?_) (fun c8 => ?_)
      · skip
        have c8 : 8 ≤ i := (nI_leI (a := 8) (b := i) (by omega) (by omega)).mp (show nI 8 ≤ nI i from c8)
        exact hend f2 _ _ _ _ (⟨by rw [hf_w0, show i = 8 from (by omega)], hFr⟩) hP hS dX1_learn_79
      · skip
        have c8 : ¬ 8 ≤ i := fun h => c8 ((nI_leI (a := 8) (b := i) (by omega) (by omega)).mpr h)
        refine lv_iload_n hx hb dX1_learn_11 rfl (lv_at hl 0 rfl) ?_
        refine lv_aload_n hx hb dX1_learn_12 rfl (lv_at hl 2 rfl) ?_
        refine pg_alen hx hb hK hP hL_sy hf_sy 0 rfl (v := nI 8) rfl dX1_learn_13 ?_
        refine lv_icmp_ge (tgt := 79) hx hb dX1_learn_14 (by decide) (fun c14 => by exfalso; have c14 := (nI_leI (a := 8) (b := i) (by omega) (by omega)).mp (show nI 8 ≤ nI i from c14); omega) (fun c14 => ?_)
        have c14 : ¬ 8 ≤ i := fun h => c14 ((nI_leI (a := 8) (b := i) (by omega) (by omega)).mpr h)
        refine lv_aload_n hx hb dX1_learn_17 rfl (lv_at hl 2 rfl) ?_
        refine lv_iload_n hx hb dX1_learn_18 rfl (lv_at hl 0 rfl) ?_
        refine pn_iald (j := i) hx hb hK hP hL_sy hf_sy rfl (by omega) (Nat.lt_of_lt_of_le (m := 100) (by omega) (by omega)) dX1_learn_19 ?_
        refine lv_iload_n hx hb dX1_learn_20 rfl (lv_at hl 1 rfl) ?_
        refine lv_icmp_ne (tgt := 46) hx hb dX1_learn_21 (by decide) (fun c21 => ?_) (fun c21 => ?_)
        · skip
          refine lv_aload_n hx hb dX1_learn_46 rfl (lv_at hl 2 rfl) ?_
          refine lv_iload_n hx hb dX1_learn_47 rfl (lv_at hl 0 rfl) ?_
          refine pn_iald (j := i) hx hb hK hP hL_sy hf_sy rfl (by omega) (Nat.lt_of_lt_of_le (m := 100) (by omega) (by omega)) dX1_learn_48 ?_
          refine lv_iload_n hx hb dX1_learn_49 rfl (lv_at hl 1 rfl) ?_
          refine lv_ineg hx hb dX1_learn_50 ?_
          refine lv_topi (fun v50 ev50 => ?_)
          refine lv_icmp_ne (tgt := 73) hx hb dX1_learn_51 (by decide) (fun c51 => ?_) (fun c51 => ?_)
          · skip
            refine lv_iinc (v := nI (i + 1)) (lv' := [(3, .int (nI (i + 1))), (2, .int t), (1, .ref sy), (0, .ref h0)]) hx hb dX1_learn_73 hl (k := 0) rfl (nI_1 _) (by decide) rfl (fun ls hl => ?_)
            refine lv_goto (tgt := 2) hx hb dX1_learn_76 (by decide) ?_
            have hz : wt i = learn1 t (sa i) (wt i) := by unfold learn1; rw [if_neg c21, if_neg (by rw [← ev50]; exact c51)]
            have hf_w0 : f2 w0 = eI g 8 (mapN (fun j w => learn1 t (sa j) w) wt (i + 1)) := by rw [hf_w0, ← mapN_k (F := (fun j w => learn1 t (sa j) w)) hz]
            exact ih2 (i + 1) f2 H locs (by omega) (by omega) hf_w0 hFr hP hS ls (lv_sub hl [0, 1, 2, 3] rfl)
          · skip
            refine lv_aload_n hx hb dX1_learn_54 rfl (lv_at hl 3 rfl) ?_
            refine pg_get (C := RX1) (T := TX1) (N := 5) hx hb hts hi_X1 hown hK hP hL_h0 hf_h0 rfl 0 (by decide) (hts (.fieldLink RX1 9 "BarometerLeague$Village" "weights" "[I") (by decide +kernel)) (fun _ h9 => h9) rfl dX1_learn_55 ?_
            refine lv_iload_n hx hb dX1_learn_58 rfl (lv_at hl 0 rfl) ?_
            refine lv_dup2_11 hx hb dX1_learn_59 rfl rfl ?_
            refine pn_iald (j := i) hx hb hK hP hL_w0 hf_w0 rfl (by omega) (Nat.lt_of_lt_of_le (m := 100) (by omega) (by omega)) dX1_learn_60 ?_
            refine lv_aload_n hx hb dX1_learn_61 rfl (lv_at hl 3 rfl) ?_
            refine pg_get (C := RX1) (T := TX1) (N := 5) hx hb hts hi_X1 hown hK hP hL_h0 hf_h0 rfl 0 (by decide) (hts (.fieldLink RX1 9 "BarometerLeague$Village" "weights" "[I") (by decide +kernel)) (fun _ h9 => h9) rfl dX1_learn_62 ?_
            refine lv_iload_n hx hb dX1_learn_65 rfl (lv_at hl 0 rfl) ?_
            refine pn_iald (j := i) hx hb hK hP hL_w0 hf_w0 rfl (by omega) (Nat.lt_of_lt_of_le (m := 100) (by omega) (by omega)) dX1_learn_66 ?_
            refine lv_iconst (v := 3) hx hb dX1_learn_67 (by decide) ?_
            refine lv_iadd hx hb dX1_learn_68 ?_
            refine lv_topi (fun v68 ev68 => ?_)
            refine lv_iconst (v := 4) hx hb dX1_learn_69 (by decide) ?_
            refine lv_idiv hx hb dX1_learn_70 (by decide) ?_
            refine lv_topi (fun v70 ev70 => ?_)
            refine lv_isub hx hb dX1_learn_71 ?_
            refine lv_topi (fun v71 ev71 => ?_)
            refine pn_iast (j := i) hx hb hK hP hN hA hS hL_w0 hf_w0 rfl (by omega) (Nat.lt_of_lt_of_le (m := 100) (by omega) (by omega)) dX1_learn_72 (fun H locs hP hS => ?_)
            obtain ⟨f72, ef72⟩ : ∃ z, z = va_up f2 w0 (eI g 8 (upd (mapN (fun j w => learn1 t (sa j) w) wt i) i v71)) := ⟨_, rfl⟩
            replace hP : PP g L f72 H := by rw [ef72]; exact hP
            have hf_h0 : f72 h0 = eO 2 [.ref w0, .int nu, .int pt, .int co, .int ro] := by rw [ef72, va_up_ne _ _ n_h0_w0]; exact hf_h0
            have hf_sy : f72 sy = eI g 8 sa := by rw [ef72, va_up_ne _ _ n_w0_sy.symm]; exact hf_sy
            have hf_w0 : f72 w0 = eI g 8 (upd (mapN (fun j w => learn1 t (sa j) w) wt i) i v71) := by rw [ef72]; exact va_up_self _ _ _
            replace hFr : Fr f f72 [w0] := by rw [ef72]; exact hFr.up (by simp)
            refine lv_iinc (v := nI (i + 1)) (lv' := [(3, .int (nI (i + 1))), (2, .int t), (1, .ref sy), (0, .ref h0)]) hx hb dX1_learn_73 hl (k := 0) rfl (nI_1 _) (by decide) rfl (fun ls hl => ?_)
            refine lv_goto (tgt := 2) hx hb dX1_learn_76 (by decide) ?_
            have hz : v71 = learn1 t (sa i) (wt i) := by rw [ev71, ev70, ev68, mapN_at]; unfold learn1; rw [if_neg c21, if_pos (by rw [← ev50]; exact c51)]
            have hf_w0 : f72 w0 = eI g 8 (mapN (fun j w => learn1 t (sa j) w) wt (i + 1)) := by rw [hf_w0, mapN_s hz]
            exact ih2 (i + 1) f72 H locs (by omega) (by omega) hf_w0 hFr hP hS ls (lv_sub hl [0, 1, 2, 3] rfl)
        · skip
          refine lv_aload_n hx hb dX1_learn_24 rfl (lv_at hl 3 rfl) ?_
          refine pg_get (C := RX1) (T := TX1) (N := 5) hx hb hts hi_X1 hown hK hP hL_h0 hf_h0 rfl 0 (by decide) (hts (.fieldLink RX1 9 "BarometerLeague$Village" "weights" "[I") (by decide +kernel)) (fun _ h9 => h9) rfl dX1_learn_25 ?_
          refine lv_iload_n hx hb dX1_learn_28 rfl (lv_at hl 0 rfl) ?_
          refine lv_aload_n hx hb dX1_learn_29 rfl (lv_at hl 3 rfl) ?_
          refine pg_get (C := RX1) (T := TX1) (N := 5) hx hb hts hi_X1 hown hK hP hL_h0 hf_h0 rfl 0 (by decide) (hts (.fieldLink RX1 9 "BarometerLeague$Village" "weights" "[I") (by decide +kernel)) (fun _ h9 => h9) rfl dX1_learn_30 ?_
          refine lv_iload_n hx hb dX1_learn_33 rfl (lv_at hl 0 rfl) ?_
          refine pn_iald (j := i) hx hb hK hP hL_w0 hf_w0 rfl (by omega) (Nat.lt_of_lt_of_le (m := 100) (by omega) (by omega)) dX1_learn_34 ?_
          refine lv_iconst (v := 1) hx hb dX1_learn_35 (by decide) ?_
          refine lv_iadd hx hb dX1_learn_36 ?_
          refine lv_topi (fun v36 ev36 => ?_)
          refine lv_bipush (v := 100) hx hb dX1_learn_37 (by decide) ?_
          refine va_mmin hx hb (hml.trans hl.1.symm) hown (hts (.methodLink RX1 48 Lib.Math.min.name) (by decide +kernel)) (hts (.static Lib.Math.min.name) (by decide +kernel)) (hts (.initialized "java/lang/Math") (by decide +kernel)) (hts (.code Lib.Math.min.name Lib.Math.min.code 2 (some .int)) (by decide +kernel)) (Nat.le_of_ble_eq_true rfl) (Nat.le_of_ble_eq_true rfl) (Nat.zero_le _) (Nat.zero_le _) dX1_learn_39 ?_
          refine lv_topi (fun v39 ev39 => ?_)
          refine pn_iast (j := i) hx hb hK hP hN hA hS hL_w0 hf_w0 rfl (by omega) (Nat.lt_of_lt_of_le (m := 100) (by omega) (by omega)) dX1_learn_42 (fun H locs hP hS => ?_)
          obtain ⟨f42, ef42⟩ : ∃ z, z = va_up f2 w0 (eI g 8 (upd (mapN (fun j w => learn1 t (sa j) w) wt i) i v39)) := ⟨_, rfl⟩
          replace hP : PP g L f42 H := by rw [ef42]; exact hP
          have hf_h0 : f42 h0 = eO 2 [.ref w0, .int nu, .int pt, .int co, .int ro] := by rw [ef42, va_up_ne _ _ n_h0_w0]; exact hf_h0
          have hf_sy : f42 sy = eI g 8 sa := by rw [ef42, va_up_ne _ _ n_w0_sy.symm]; exact hf_sy
          have hf_w0 : f42 w0 = eI g 8 (upd (mapN (fun j w => learn1 t (sa j) w) wt i) i v39) := by rw [ef42]; exact va_up_self _ _ _
          replace hFr : Fr f f42 [w0] := by rw [ef42]; exact hFr.up (by simp)
          refine lv_goto (tgt := 73) hx hb dX1_learn_43 (by decide) ?_
          refine lv_iinc (v := nI (i + 1)) (lv' := [(3, .int (nI (i + 1))), (2, .int t), (1, .ref sy), (0, .ref h0)]) hx hb dX1_learn_73 hl (k := 0) rfl (nI_1 _) (by decide) rfl (fun ls hl => ?_)
          refine lv_goto (tgt := 2) hx hb dX1_learn_76 (by decide) ?_
          have hz : v39 = learn1 t (sa i) (wt i) := by rw [ev39, ev36, mapN_at]; unfold learn1; rw [if_pos c21]
          have hf_w0 : f42 w0 = eI g 8 (mapN (fun j w => learn1 t (sa j) w) wt (i + 1)) := by rw [hf_w0, mapN_s hz]
          exact ih2 (i + 1) f42 H locs (by omega) (by omega) hf_w0 hFr hP hS ls (lv_sub hl [0, 1, 2, 3] rfl)
  exact K2 _ 0 f _ _ (Nat.lt_succ_self _) (Nat.zero_le _) hf_w0 hFr hP hS ls (lv_sub hl [0, 3, 2, 1] rfl)

set_option maxHeartbeats 4000000 in
set_option maxRecDepth 100000 in
theorem m_X1_sellAlmanacs (l : Launch) (g : GG) (L : List Nat) (f : Nat → va_E) (sz : Nat) (hN : L.Nodup) (h0 w0 : Nat) (nu pt co ro : Int32) (wt : Nat → Int32) (hL_h0 : h0 ∈ L) (hf_h0 : f h0 = eO 2 [.ref w0, .int nu, .int pt, .int co, .int ro]) (hL_w0 : w0 ∈ L) (hf_w0 : f w0 = eI g 8 wt) : RV l g yX1_sellAlmanacs wsX1_sellAlmanacs 1 21 L f sz [.ref h0] (fun f2 => f2 h0 = eO 2 [.ref w0, .int nu, .int pt, .int (sell1 ro co), .int ro] ∧ Fr f f2 [h0]) := by
  refine RV.start (cc := cX1_sellAlmanacs) (maxL := 1) (by decide +kernel) rfl (by simp [lg_sl, Value.category]) ?_
  intro p e s m args below meth c Q ls A hx hb hml hts hown hA hA2 hS hP hK hl hend
  have hl : lv_has ls 1 [(0, .ref h0)] := hl
  have hi_X1 : ∀ w ∈ u_ws RX1 TX1 5, w ∈ wsX1_sellAlmanacs := by decide +kernel
  have hFr : Fr f f [h0] := Fr.rf
  have n_h0_w0 : h0 ≠ w0 := ne_e hf_h0 hf_w0 (by simp)
  have h0f_h0 := hf_h0
  have h0f_w0 := hf_w0
  refine lv_aload_n hx hb dX1_sellAlmanacs_0 rfl (lv_at hl 0 rfl) ?_
  refine pg_get (C := RX1) (T := TX1) (N := 5) hx hb hts hi_X1 hown hK hP hL_h0 hf_h0 rfl 4 (by decide) (hts (.fieldLink RX1 31 "BarometerLeague$Village" "rowOfHits" "I") (by decide +kernel)) (fun _ h9 => h9) rfl dX1_sellAlmanacs_1 ?_
  refine lv_iconst (v := 1) hx hb dX1_sellAlmanacs_4 (by decide) ?_
  refine lv_icmp_lt (tgt := 28) hx hb dX1_sellAlmanacs_5 (by decide) (fun c5 => ?_) (fun c5 => ?_)
  · skip
    refine lv_aload_n hx hb dX1_sellAlmanacs_28 rfl (lv_at hl 0 rfl) ?_
    refine pg_get (C := RX1) (T := TX1) (N := 5) hx hb hts hi_X1 hown hK hP hL_h0 hf_h0 rfl 3 (by decide) (hts (.fieldLink RX1 19 "BarometerLeague$Village" "coins" "I") (by decide +kernel)) (fun _ h9 => h9) rfl dX1_sellAlmanacs_29 ?_
    refine lv_if_le (tgt := 45) hx hb dX1_sellAlmanacs_32 (by decide) (fun c32 => ?_) (fun c32 => ?_)
    · skip
      exact hend f _ _ _ _ (⟨by rw [hf_h0]; exact congrArg (fun z => eO 2 [.ref w0, .int nu, .int pt, .int z, .int ro]) (show co = sell1 ro co by unfold sell1; rw [if_pos c5, if_pos c32]), hFr⟩) hP hS dX1_sellAlmanacs_45
    · skip
      refine lv_aload_n hx hb dX1_sellAlmanacs_35 rfl (lv_at hl 0 rfl) ?_
      refine lv_dup hx hb dX1_sellAlmanacs_36 rfl ?_
      refine pg_get (C := RX1) (T := TX1) (N := 5) hx hb hts hi_X1 hown hK hP hL_h0 hf_h0 rfl 3 (by decide) (hts (.fieldLink RX1 19 "BarometerLeague$Village" "coins" "I") (by decide +kernel)) (fun _ h9 => h9) rfl dX1_sellAlmanacs_37 ?_
      refine lv_iconst (v := 1) hx hb dX1_sellAlmanacs_40 (by decide) ?_
      refine lv_isub hx hb dX1_sellAlmanacs_41 ?_
      refine lv_topi (fun v41 ev41 => ?_)
      refine pg_put (ty := .int) (C := RX1) (T := TX1) (N := 5) hx hb hts hi_X1 tyX1 tyX1_ok nmX1 hown hK hP hN hA hS hL_h0 hf_h0 rfl 3 (by decide) (hts (.fieldLink RX1 19 "BarometerLeague$Village" "coins" "I") (by decide +kernel)) (fun _ h9 => h9) rfl (by decide +kernel) rfl rfl (Nat.le_of_ble_eq_true rfl) dX1_sellAlmanacs_42 (fun H locs hP hS => ?_)
      obtain ⟨f42, ef42⟩ : ∃ z, z = va_up f h0 (eO 2 [.ref w0, .int nu, .int pt, .int v41, .int ro]) := ⟨_, rfl⟩
      replace hP : PP g L f42 H := by rw [ef42]; exact hP
      have hf_w0 : f42 w0 = eI g 8 wt := by rw [ef42, va_up_ne _ _ n_h0_w0.symm]; exact hf_w0
      have hf_h0 : f42 h0 = eO 2 [.ref w0, .int nu, .int pt, .int v41, .int ro] := by rw [ef42]; exact va_up_self _ _ _
      replace hFr : Fr f f42 [h0] := by rw [ef42]; exact hFr.up (by simp)
      exact hend f42 _ _ _ _ (⟨by rw [hf_h0]; exact congrArg (fun z => eO 2 [.ref w0, .int nu, .int pt, .int z, .int ro]) (show v41 = sell1 ro co by unfold sell1; rw [if_pos c5, if_neg c32]; exact ev41), hFr⟩) hP hS dX1_sellAlmanacs_45
  · skip
    refine lv_aload_n hx hb dX1_sellAlmanacs_8 rfl (lv_at hl 0 rfl) ?_
    refine lv_dup hx hb dX1_sellAlmanacs_9 rfl ?_
    refine pg_get (C := RX1) (T := TX1) (N := 5) hx hb hts hi_X1 hown hK hP hL_h0 hf_h0 rfl 3 (by decide) (hts (.fieldLink RX1 19 "BarometerLeague$Village" "coins" "I") (by decide +kernel)) (fun _ h9 => h9) rfl dX1_sellAlmanacs_10 ?_
    refine lv_aload_n hx hb dX1_sellAlmanacs_13 rfl (lv_at hl 0 rfl) ?_
    refine pg_get (C := RX1) (T := TX1) (N := 5) hx hb hts hi_X1 hown hK hP hL_h0 hf_h0 rfl 4 (by decide) (hts (.fieldLink RX1 31 "BarometerLeague$Village" "rowOfHits" "I") (by decide +kernel)) (fun _ h9 => h9) rfl dX1_sellAlmanacs_14 ?_
    refine lv_iconst (v := 5) hx hb dX1_sellAlmanacs_17 (by decide) ?_
    refine va_mmin hx hb (hml.trans hl.1.symm) hown (hts (.methodLink RX1 48 Lib.Math.min.name) (by decide +kernel)) (hts (.static Lib.Math.min.name) (by decide +kernel)) (hts (.initialized "java/lang/Math") (by decide +kernel)) (hts (.code Lib.Math.min.name Lib.Math.min.code 2 (some .int)) (by decide +kernel)) (Nat.le_of_ble_eq_true rfl) (Nat.le_of_ble_eq_true rfl) (Nat.zero_le _) (Nat.zero_le _) dX1_sellAlmanacs_18 ?_
    refine lv_topi (fun v18 ev18 => ?_)
    refine lv_iadd hx hb dX1_sellAlmanacs_21 ?_
    refine lv_topi (fun v21 ev21 => ?_)
    refine pg_put (ty := .int) (C := RX1) (T := TX1) (N := 5) hx hb hts hi_X1 tyX1 tyX1_ok nmX1 hown hK hP hN hA hS hL_h0 hf_h0 rfl 3 (by decide) (hts (.fieldLink RX1 19 "BarometerLeague$Village" "coins" "I") (by decide +kernel)) (fun _ h9 => h9) rfl (by decide +kernel) rfl rfl (Nat.le_of_ble_eq_true rfl) dX1_sellAlmanacs_22 (fun H locs hP hS => ?_)
    obtain ⟨f22, ef22⟩ : ∃ z, z = va_up f h0 (eO 2 [.ref w0, .int nu, .int pt, .int v21, .int ro]) := ⟨_, rfl⟩
    replace hP : PP g L f22 H := by rw [ef22]; exact hP
    have hf_w0 : f22 w0 = eI g 8 wt := by rw [ef22, va_up_ne _ _ n_h0_w0.symm]; exact hf_w0
    have hf_h0 : f22 h0 = eO 2 [.ref w0, .int nu, .int pt, .int v21, .int ro] := by rw [ef22]; exact va_up_self _ _ _
    replace hFr : Fr f f22 [h0] := by rw [ef22]; exact hFr.up (by simp)
    refine lv_goto (tgt := 45) hx hb dX1_sellAlmanacs_25 (by decide) ?_
    exact hend f22 _ _ _ _ (⟨by rw [hf_h0]; exact congrArg (fun z => eO 2 [.ref w0, .int nu, .int pt, .int z, .int ro]) (show v21 = sell1 ro co by unfold sell1; rw [if_neg c5, ev21, ev18]), hFr⟩) hP hS dX1_sellAlmanacs_45

set_option maxHeartbeats 4000000 in
set_option maxRecDepth 100000 in
theorem m_X1_isAheadOf (l : Launch) (g : GG) (L : List Nat) (f : Nat → va_E) (h0 w0 h1 w1 : Nat) (nu pt co ro nu1 pt1 co1 ro1 : Int32) (hL_h0 : h0 ∈ L) (hf_h0 : f h0 = eO 2 [.ref w0, .int nu, .int pt, .int co, .int ro]) (hL_h1 : h1 ∈ L) (hf_h1 : f h1 = eO 2 [.ref w1, .int nu1, .int pt1, .int co1, .int ro1]) : RO l g yX1_isAheadOf wsX1_isAheadOf 0 0 L f [.ref h0, .ref h1] (fun r => r = b2i (aheadB pt co nu pt1 co1 nu1)) := by
  refine RO.start (cc := cX1_isAheadOf) (maxL := 2) (ret := .boolean) (by decide +kernel) rfl (by simp [lg_sl, Value.category]) ?_
  intro p e s m args below meth c Q ls hx hb hml hts hown hP hK hl hend
  have hl : lv_has ls 2 [(0, .ref h0), (1, .ref h1)] := hl
  have hi_X1 : ∀ w ∈ u_ws RX1 TX1 5, w ∈ wsX1_isAheadOf := by decide +kernel
  refine lv_aload_n hx hb dX1_isAheadOf_0 rfl (lv_at hl 0 rfl) ?_
  refine pg_get (C := RX1) (T := TX1) (N := 5) hx hb hts hi_X1 hown hK hP hL_h0 hf_h0 rfl 2 (by decide) (hts (.fieldLink RX1 28 "BarometerLeague$Village" "points" "I") (by decide +kernel)) (fun _ h9 => h9) rfl dX1_isAheadOf_1 ?_
  refine lv_aload_n hx hb dX1_isAheadOf_4 rfl (lv_at hl 1 rfl) ?_
  refine pg_get (C := RX1) (T := TX1) (N := 5) hx hb hts hi_X1 hown hK hP hL_h1 hf_h1 rfl 2 (by decide) (hts (.fieldLink RX1 28 "BarometerLeague$Village" "points" "I") (by decide +kernel)) (fun _ h9 => h9) rfl dX1_isAheadOf_5 ?_
  refine lv_icmp_eq (tgt := 28) hx hb dX1_isAheadOf_8 (by decide) (fun c8 => ?_) (fun c8 => ?_)
  · skip
    refine lv_aload_n hx hb dX1_isAheadOf_28 rfl (lv_at hl 0 rfl) ?_
    refine pg_get (C := RX1) (T := TX1) (N := 5) hx hb hts hi_X1 hown hK hP hL_h0 hf_h0 rfl 3 (by decide) (hts (.fieldLink RX1 19 "BarometerLeague$Village" "coins" "I") (by decide +kernel)) (fun _ h9 => h9) rfl dX1_isAheadOf_29 ?_
    refine lv_aload_n hx hb dX1_isAheadOf_32 rfl (lv_at hl 1 rfl) ?_
    refine pg_get (C := RX1) (T := TX1) (N := 5) hx hb hts hi_X1 hown hK hP hL_h1 hf_h1 rfl 3 (by decide) (hts (.fieldLink RX1 19 "BarometerLeague$Village" "coins" "I") (by decide +kernel)) (fun _ h9 => h9) rfl dX1_isAheadOf_33 ?_
    refine lv_icmp_eq (tgt := 56) hx hb dX1_isAheadOf_36 (by decide) (fun c36 => ?_) (fun c36 => ?_)
    · skip
      refine lv_aload_n hx hb dX1_isAheadOf_56 rfl (lv_at hl 0 rfl) ?_
      refine pg_get (C := RX1) (T := TX1) (N := 5) hx hb hts hi_X1 hown hK hP hL_h0 hf_h0 rfl 1 (by decide) (hts (.fieldLink RX1 15 "BarometerLeague$Village" "number" "I") (by decide +kernel)) (fun _ h9 => h9) rfl dX1_isAheadOf_57 ?_
      refine lv_aload_n hx hb dX1_isAheadOf_60 rfl (lv_at hl 1 rfl) ?_
      refine pg_get (C := RX1) (T := TX1) (N := 5) hx hb hts hi_X1 hown hK hP hL_h1 hf_h1 rfl 1 (by decide) (hts (.fieldLink RX1 15 "BarometerLeague$Village" "number" "I") (by decide +kernel)) (fun _ h9 => h9) rfl dX1_isAheadOf_61 ?_
      refine lv_icmp_ge (tgt := 71) hx hb dX1_isAheadOf_64 (by decide) (fun c64 => ?_) (fun c64 => ?_)
      · skip
        refine lv_iconst (v := 0) hx hb dX1_isAheadOf_71 (by decide) ?_
        exact hend (0) _ _ (bf (ah3 c8 c36) (Int32.not_lt.mpr c64)) rfl dX1_isAheadOf_72
      · skip
        refine lv_iconst (v := 1) hx hb dX1_isAheadOf_67 (by decide) ?_
        refine lv_goto (tgt := 72) hx hb dX1_isAheadOf_68 (by decide) ?_
        exact hend (1) _ _ (bt (ah3 c8 c36) (Int32.not_le.mp c64)) rfl dX1_isAheadOf_72
    · skip
      refine lv_aload_n hx hb dX1_isAheadOf_39 rfl (lv_at hl 0 rfl) ?_
      refine pg_get (C := RX1) (T := TX1) (N := 5) hx hb hts hi_X1 hown hK hP hL_h0 hf_h0 rfl 3 (by decide) (hts (.fieldLink RX1 19 "BarometerLeague$Village" "coins" "I") (by decide +kernel)) (fun _ h9 => h9) rfl dX1_isAheadOf_40 ?_
      refine lv_aload_n hx hb dX1_isAheadOf_43 rfl (lv_at hl 1 rfl) ?_
      refine pg_get (C := RX1) (T := TX1) (N := 5) hx hb hts hi_X1 hown hK hP hL_h1 hf_h1 rfl 3 (by decide) (hts (.fieldLink RX1 19 "BarometerLeague$Village" "coins" "I") (by decide +kernel)) (fun _ h9 => h9) rfl dX1_isAheadOf_44 ?_
      refine lv_icmp_le (tgt := 54) hx hb dX1_isAheadOf_47 (by decide) (fun c47 => ?_) (fun c47 => ?_)
      · skip
        refine lv_iconst (v := 0) hx hb dX1_isAheadOf_54 (by decide) ?_
        exact hend (0) _ _ (bf (ah2 c8 c36) (Int32.not_lt.mpr c47)) rfl dX1_isAheadOf_55
      · skip
        refine lv_iconst (v := 1) hx hb dX1_isAheadOf_50 (by decide) ?_
        refine lv_goto (tgt := 55) hx hb dX1_isAheadOf_51 (by decide) ?_
        exact hend (1) _ _ (bt (ah2 c8 c36) (Int32.not_le.mp c47)) rfl dX1_isAheadOf_55
  · skip
    refine lv_aload_n hx hb dX1_isAheadOf_11 rfl (lv_at hl 0 rfl) ?_
    refine pg_get (C := RX1) (T := TX1) (N := 5) hx hb hts hi_X1 hown hK hP hL_h0 hf_h0 rfl 2 (by decide) (hts (.fieldLink RX1 28 "BarometerLeague$Village" "points" "I") (by decide +kernel)) (fun _ h9 => h9) rfl dX1_isAheadOf_12 ?_
    refine lv_aload_n hx hb dX1_isAheadOf_15 rfl (lv_at hl 1 rfl) ?_
    refine pg_get (C := RX1) (T := TX1) (N := 5) hx hb hts hi_X1 hown hK hP hL_h1 hf_h1 rfl 2 (by decide) (hts (.fieldLink RX1 28 "BarometerLeague$Village" "points" "I") (by decide +kernel)) (fun _ h9 => h9) rfl dX1_isAheadOf_16 ?_
    refine lv_icmp_le (tgt := 26) hx hb dX1_isAheadOf_19 (by decide) (fun c19 => ?_) (fun c19 => ?_)
    · skip
      refine lv_iconst (v := 0) hx hb dX1_isAheadOf_26 (by decide) ?_
      exact hend (0) _ _ (bf (ah1 c8) (Int32.not_lt.mpr c19)) rfl dX1_isAheadOf_27
    · skip
      refine lv_iconst (v := 1) hx hb dX1_isAheadOf_22 (by decide) ?_
      refine lv_goto (tgt := 27) hx hb dX1_isAheadOf_23 (by decide) ?_
      exact hend (1) _ _ (bt (ah1 c8) (Int32.not_le.mp c19)) rfl dX1_isAheadOf_27

set_option maxHeartbeats 4000000 in
set_option maxRecDepth 100000 in
theorem m_X1_becomeLike (l : Launch) (g : GG) (L : List Nat) (f : Nat → va_E) (sz : Nat) (hN : L.Nodup) (h0 w0 : Nat) (nu pt co ro : Int32) (wt : Nat → Int32) (h1 w1 : Nat) (nu1 pt1 co1 ro1 : Int32) (wt1 : Nat → Int32) (hL_h0 : h0 ∈ L) (hf_h0 : f h0 = eO 2 [.ref w0, .int nu, .int pt, .int co, .int ro]) (hL_w0 : w0 ∈ L) (hf_w0 : f w0 = eI g 8 wt) (hL_h1 : h1 ∈ L) (hf_h1 : f h1 = eO 2 [.ref w1, .int nu1, .int pt1, .int co1, .int ro1]) (hL_w1 : w1 ∈ L) (hf_w1 : f w1 = eI g 8 wt1) (n_h0_h1 : h0 ≠ h1) (n_w0_w1 : w0 ≠ w1) : RV l g yX1_becomeLike wsX1_becomeLike 0 0 L f sz [.ref h0, .ref h1] (fun f2 => f2 h0 = eO 2 [.ref w0, .int nu1, .int pt1, .int co1, .int ro1] ∧ f2 w0 = eI g 8 (mapN (fun j _ => wt1 j) wt 8) ∧ Fr f f2 [h0, w0]) := by
  refine RV.start (cc := cX1_becomeLike) (maxL := 3) (by decide +kernel) rfl (by simp [lg_sl, Value.category]) ?_
  intro p e s m args below meth c Q ls A hx hb hml hts hown hA hA2 hS hP hK hl hend
  have hl : lv_has ls 3 [(0, .ref h0), (1, .ref h1)] := hl
  have hi_X1 : ∀ w ∈ u_ws RX1 TX1 5, w ∈ wsX1_becomeLike := by decide +kernel
  have hFr : Fr f f [h0, w0] := Fr.rf
  have n_h0_w0 : h0 ≠ w0 := ne_e hf_h0 hf_w0 (by simp)
  have n_h0_w1 : h0 ≠ w1 := ne_e hf_h0 hf_w1 (by simp)
  have n_w0_h1 : w0 ≠ h1 := ne_e hf_w0 hf_h1 (by simp)
  have n_h1_w1 : h1 ≠ w1 := ne_e hf_h1 hf_w1 (by simp)
  have h0f_h0 := hf_h0
  have h0f_w0 := hf_w0
  have h0f_h1 := hf_h1
  have h0f_w1 := hf_w1
  refine lv_aload_n hx hb dX1_becomeLike_0 rfl (lv_at hl 0 rfl) ?_
  refine lv_aload_n hx hb dX1_becomeLike_1 rfl (lv_at hl 1 rfl) ?_
  refine pg_get (C := RX1) (T := TX1) (N := 5) hx hb hts hi_X1 hown hK hP hL_h1 hf_h1 rfl 1 (by decide) (hts (.fieldLink RX1 15 "BarometerLeague$Village" "number" "I") (by decide +kernel)) (fun _ h9 => h9) rfl dX1_becomeLike_2 ?_
  refine pg_put (ty := .int) (C := RX1) (T := TX1) (N := 5) hx hb hts hi_X1 tyX1 tyX1_ok nmX1 hown hK hP hN hA hS hL_h0 hf_h0 rfl 1 (by decide) (hts (.fieldLink RX1 15 "BarometerLeague$Village" "number" "I") (by decide +kernel)) (fun _ h9 => h9) rfl (by decide +kernel) rfl rfl (Nat.le_of_ble_eq_true rfl) dX1_becomeLike_5 (fun H locs hP hS => ?_)
  obtain ⟨f5, ef5⟩ : ∃ z, z = va_up f h0 (eO 2 [.ref w0, .int nu1, .int pt, .int co, .int ro]) := ⟨_, rfl⟩
  replace hP : PP g L f5 H := by rw [ef5]; exact hP
  have hf_w0 : f5 w0 = eI g 8 wt := by rw [ef5, va_up_ne _ _ n_h0_w0.symm]; exact hf_w0
  have hf_h1 : f5 h1 = eO 2 [.ref w1, .int nu1, .int pt1, .int co1, .int ro1] := by rw [ef5, va_up_ne _ _ n_h0_h1.symm]; exact hf_h1
  have hf_w1 : f5 w1 = eI g 8 wt1 := by rw [ef5, va_up_ne _ _ n_h0_w1.symm]; exact hf_w1
  have hf_h0 : f5 h0 = eO 2 [.ref w0, .int nu1, .int pt, .int co, .int ro] := by rw [ef5]; exact va_up_self _ _ _
  replace hFr : Fr f f5 [h0, w0] := by rw [ef5]; exact hFr.up (by simp)
  refine lv_aload_n hx hb dX1_becomeLike_8 rfl (lv_at hl 0 rfl) ?_
  refine lv_aload_n hx hb dX1_becomeLike_9 rfl (lv_at hl 1 rfl) ?_
  refine pg_get (C := RX1) (T := TX1) (N := 5) hx hb hts hi_X1 hown hK hP hL_h1 hf_h1 rfl 2 (by decide) (hts (.fieldLink RX1 28 "BarometerLeague$Village" "points" "I") (by decide +kernel)) (fun _ h9 => h9) rfl dX1_becomeLike_10 ?_
  refine pg_put (ty := .int) (C := RX1) (T := TX1) (N := 5) hx hb hts hi_X1 tyX1 tyX1_ok nmX1 hown hK hP hN hA hS hL_h0 hf_h0 rfl 2 (by decide) (hts (.fieldLink RX1 28 "BarometerLeague$Village" "points" "I") (by decide +kernel)) (fun _ h9 => h9) rfl (by decide +kernel) rfl rfl (Nat.le_of_ble_eq_true rfl) dX1_becomeLike_13 (fun H locs hP hS => ?_)
  obtain ⟨f13, ef13⟩ : ∃ z, z = va_up f5 h0 (eO 2 [.ref w0, .int nu1, .int pt1, .int co, .int ro]) := ⟨_, rfl⟩
  replace hP : PP g L f13 H := by rw [ef13]; exact hP
  have hf_w0 : f13 w0 = eI g 8 wt := by rw [ef13, va_up_ne _ _ n_h0_w0.symm]; exact hf_w0
  have hf_h1 : f13 h1 = eO 2 [.ref w1, .int nu1, .int pt1, .int co1, .int ro1] := by rw [ef13, va_up_ne _ _ n_h0_h1.symm]; exact hf_h1
  have hf_w1 : f13 w1 = eI g 8 wt1 := by rw [ef13, va_up_ne _ _ n_h0_w1.symm]; exact hf_w1
  have hf_h0 : f13 h0 = eO 2 [.ref w0, .int nu1, .int pt1, .int co, .int ro] := by rw [ef13]; exact va_up_self _ _ _
  replace hFr : Fr f f13 [h0, w0] := by rw [ef13]; exact hFr.up (by simp)
  refine lv_aload_n hx hb dX1_becomeLike_16 rfl (lv_at hl 0 rfl) ?_
  refine lv_aload_n hx hb dX1_becomeLike_17 rfl (lv_at hl 1 rfl) ?_
  refine pg_get (C := RX1) (T := TX1) (N := 5) hx hb hts hi_X1 hown hK hP hL_h1 hf_h1 rfl 3 (by decide) (hts (.fieldLink RX1 19 "BarometerLeague$Village" "coins" "I") (by decide +kernel)) (fun _ h9 => h9) rfl dX1_becomeLike_18 ?_
  refine pg_put (ty := .int) (C := RX1) (T := TX1) (N := 5) hx hb hts hi_X1 tyX1 tyX1_ok nmX1 hown hK hP hN hA hS hL_h0 hf_h0 rfl 3 (by decide) (hts (.fieldLink RX1 19 "BarometerLeague$Village" "coins" "I") (by decide +kernel)) (fun _ h9 => h9) rfl (by decide +kernel) rfl rfl (Nat.le_of_ble_eq_true rfl) dX1_becomeLike_21 (fun H locs hP hS => ?_)
  obtain ⟨f21, ef21⟩ : ∃ z, z = va_up f13 h0 (eO 2 [.ref w0, .int nu1, .int pt1, .int co1, .int ro]) := ⟨_, rfl⟩
  replace hP : PP g L f21 H := by rw [ef21]; exact hP
  have hf_w0 : f21 w0 = eI g 8 wt := by rw [ef21, va_up_ne _ _ n_h0_w0.symm]; exact hf_w0
  have hf_h1 : f21 h1 = eO 2 [.ref w1, .int nu1, .int pt1, .int co1, .int ro1] := by rw [ef21, va_up_ne _ _ n_h0_h1.symm]; exact hf_h1
  have hf_w1 : f21 w1 = eI g 8 wt1 := by rw [ef21, va_up_ne _ _ n_h0_w1.symm]; exact hf_w1
  have hf_h0 : f21 h0 = eO 2 [.ref w0, .int nu1, .int pt1, .int co1, .int ro] := by rw [ef21]; exact va_up_self _ _ _
  replace hFr : Fr f f21 [h0, w0] := by rw [ef21]; exact hFr.up (by simp)
  refine lv_aload_n hx hb dX1_becomeLike_24 rfl (lv_at hl 0 rfl) ?_
  refine lv_aload_n hx hb dX1_becomeLike_25 rfl (lv_at hl 1 rfl) ?_
  refine pg_get (C := RX1) (T := TX1) (N := 5) hx hb hts hi_X1 hown hK hP hL_h1 hf_h1 rfl 4 (by decide) (hts (.fieldLink RX1 31 "BarometerLeague$Village" "rowOfHits" "I") (by decide +kernel)) (fun _ h9 => h9) rfl dX1_becomeLike_26 ?_
  refine pg_put (ty := .int) (C := RX1) (T := TX1) (N := 5) hx hb hts hi_X1 tyX1 tyX1_ok nmX1 hown hK hP hN hA hS hL_h0 hf_h0 rfl 4 (by decide) (hts (.fieldLink RX1 31 "BarometerLeague$Village" "rowOfHits" "I") (by decide +kernel)) (fun _ h9 => h9) rfl (by decide +kernel) rfl rfl (Nat.le_of_ble_eq_true rfl) dX1_becomeLike_29 (fun H locs hP hS => ?_)
  obtain ⟨f29, ef29⟩ : ∃ z, z = va_up f21 h0 (eO 2 [.ref w0, .int nu1, .int pt1, .int co1, .int ro1]) := ⟨_, rfl⟩
  replace hP : PP g L f29 H := by rw [ef29]; exact hP
  have hf_w0 : f29 w0 = eI g 8 wt := by rw [ef29, va_up_ne _ _ n_h0_w0.symm]; exact hf_w0
  have hf_h1 : f29 h1 = eO 2 [.ref w1, .int nu1, .int pt1, .int co1, .int ro1] := by rw [ef29, va_up_ne _ _ n_h0_h1.symm]; exact hf_h1
  have hf_w1 : f29 w1 = eI g 8 wt1 := by rw [ef29, va_up_ne _ _ n_h0_w1.symm]; exact hf_w1
  have hf_h0 : f29 h0 = eO 2 [.ref w0, .int nu1, .int pt1, .int co1, .int ro1] := by rw [ef29]; exact va_up_self _ _ _
  replace hFr : Fr f f29 [h0, w0] := by rw [ef29]; exact hFr.up (by simp)
  refine lv_iconst (v := 0) hx hb dX1_becomeLike_32 (by decide) ?_
  refine lv_istore_n (lv' := [(2, .int 0), (0, .ref h0), (1, .ref h1)]) hx hb dX1_becomeLike_33 rfl hl (by decide) rfl (fun ls hl => ?_)
  have hf_w0 : f29 w0 = eI g 8 (mapN (fun j _ => wt1 j) wt 0) := by rw [hf_w0, mapN_0]
  have K34 : ∀ (n34 : Nat) (i : Nat) (f34 : Nat → va_E) (H : Heap) (locs : List Loc), 8 - i < n34 → i ≤ 8 → f34 h0 = eO 2 [.ref w0, .int nu1, .int pt1, .int co1, .int ro1] → f34 w0 = eI g 8 (mapN (fun j _ => wt1 j) wt i) → Fr f f34 [h0, w0] → PP g L f34 H → va_S A s.heap H locs → ∀ (ls : Array Slot), lv_has ls 3 [(2, .int (nI i)), (1, .ref h1), (0, .ref h0)] → W p l e ({ frames := 0, cells := 0, slots := 0, locals := 0 } : Room) s m args below meth c H locs 0 0 Q (F0 m 34 ls []) := by
    intro n34
    induction n34 with
    | zero => intros; omega
    | succ n34 ih34 =>
      intro i f34 H locs hm34 hi hq34_0 hq34_1 hFr hP hS ls hl
      have hf_h1 : f34 h1 = eO 2 [.ref w1, .int nu1, .int pt1, .int co1, .int ro1] := hFr.get h0f_h1 (nm_c n_h0_h1.symm (nm_c n_w0_h1.symm (List.not_mem_nil)))
      have hf_w1 : f34 w1 = eI g 8 wt1 := hFr.get h0f_w1 (nm_c n_h0_w1.symm (nm_c n_w0_w1.symm (List.not_mem_nil)))
      have hf_h0 : f34 h0 = eO 2 [.ref w0, .int nu1, .int pt1, .int co1, .int ro1] := hq34_0
      have hf_w0 : f34 w0 = eI g 8 (mapN (fun j _ => wt1 j) wt i) := hq34_1
      refine lv_iload_n hx hb dX1_becomeLike_34 rfl (lv_at hl 0 rfl) ?_
      refine lv_aload_n hx hb dX1_becomeLike_35 rfl (lv_at hl 2 rfl) ?_
      refine pg_get (C := RX1) (T := TX1) (N := 5) hx hb hts hi_X1 hown hK hP hL_h0 hf_h0 rfl 0 (by decide) (hts (.fieldLink RX1 9 "BarometerLeague$Village" "weights" "[I") (by decide +kernel)) (fun _ h9 => h9) rfl dX1_becomeLike_36 ?_
      refine pg_alen hx hb hK hP hL_w0 hf_w0 0 rfl (v := nI 8) rfl dX1_becomeLike_39 ?_
      refine lv_icmp_ge (tgt := 70) hx hb dX1_becomeLike_40 (by decide) (fun c40 => ?_) (fun c40 => ?_)
      · skip
        have c40 : 8 ≤ i := (nI_leI (a := 8) (b := i) (by omega) (by omega)).mp (show nI 8 ≤ nI i from c40)
        exact hend f34 _ _ _ _ (⟨hf_h0, by rw [hf_w0, show i = 8 from (by omega)], hFr⟩) hP hS dX1_becomeLike_70
      · skip
        have c40 : ¬ 8 ≤ i := fun h => c40 ((nI_leI (a := 8) (b := i) (by omega) (by omega)).mpr h)
        refine lv_iload_n hx hb dX1_becomeLike_43 rfl (lv_at hl 0 rfl) ?_
        refine lv_aload_n hx hb dX1_becomeLike_44 rfl (lv_at hl 1 rfl) ?_
        refine pg_get (C := RX1) (T := TX1) (N := 5) hx hb hts hi_X1 hown hK hP hL_h1 hf_h1 rfl 0 (by decide) (hts (.fieldLink RX1 9 "BarometerLeague$Village" "weights" "[I") (by decide +kernel)) (fun _ h9 => h9) rfl dX1_becomeLike_45 ?_
        refine pg_alen hx hb hK hP hL_w1 hf_w1 0 rfl (v := nI 8) rfl dX1_becomeLike_48 ?_
        refine lv_icmp_ge (tgt := 70) hx hb dX1_becomeLike_49 (by decide) (fun c49 => by exfalso; have c49 := (nI_leI (a := 8) (b := i) (by omega) (by omega)).mp (show nI 8 ≤ nI i from c49); omega) (fun c49 => ?_)
        have c49 : ¬ 8 ≤ i := fun h => c49 ((nI_leI (a := 8) (b := i) (by omega) (by omega)).mpr h)
        refine lv_aload_n hx hb dX1_becomeLike_52 rfl (lv_at hl 2 rfl) ?_
        refine pg_get (C := RX1) (T := TX1) (N := 5) hx hb hts hi_X1 hown hK hP hL_h0 hf_h0 rfl 0 (by decide) (hts (.fieldLink RX1 9 "BarometerLeague$Village" "weights" "[I") (by decide +kernel)) (fun _ h9 => h9) rfl dX1_becomeLike_53 ?_
        refine lv_iload_n hx hb dX1_becomeLike_56 rfl (lv_at hl 0 rfl) ?_
        refine lv_aload_n hx hb dX1_becomeLike_57 rfl (lv_at hl 1 rfl) ?_
        refine pg_get (C := RX1) (T := TX1) (N := 5) hx hb hts hi_X1 hown hK hP hL_h1 hf_h1 rfl 0 (by decide) (hts (.fieldLink RX1 9 "BarometerLeague$Village" "weights" "[I") (by decide +kernel)) (fun _ h9 => h9) rfl dX1_becomeLike_58 ?_
        refine lv_iload_n hx hb dX1_becomeLike_61 rfl (lv_at hl 0 rfl) ?_
        refine pn_iald (j := i) hx hb hK hP hL_w1 hf_w1 rfl (by omega) (Nat.lt_of_lt_of_le (m := 100) (by omega) (by omega)) dX1_becomeLike_62 ?_
        refine pn_iast (j := i) hx hb hK hP hN hA hS hL_w0 hf_w0 rfl (by omega) (Nat.lt_of_lt_of_le (m := 100) (by omega) (by omega)) dX1_becomeLike_63 (fun H locs hP hS => ?_)
        obtain ⟨f63, ef63⟩ : ∃ z, z = va_up f34 w0 (eI g 8 (upd (mapN (fun j _ => wt1 j) wt i) i (wt1 i))) := ⟨_, rfl⟩
        replace hP : PP g L f63 H := by rw [ef63]; exact hP
        have hf_h0 : f63 h0 = eO 2 [.ref w0, .int nu1, .int pt1, .int co1, .int ro1] := by rw [ef63, va_up_ne _ _ n_h0_w0]; exact hf_h0
        have hf_h1 : f63 h1 = eO 2 [.ref w1, .int nu1, .int pt1, .int co1, .int ro1] := by rw [ef63, va_up_ne _ _ n_w0_h1.symm]; exact hf_h1
        have hf_w1 : f63 w1 = eI g 8 wt1 := by rw [ef63, va_up_ne _ _ n_w0_w1.symm]; exact hf_w1
        have hf_w0 : f63 w0 = eI g 8 (upd (mapN (fun j _ => wt1 j) wt i) i (wt1 i)) := by rw [ef63]; exact va_up_self _ _ _
        replace hFr : Fr f f63 [h0, w0] := by rw [ef63]; exact hFr.up (by simp)
        refine lv_iinc (v := nI (i + 1)) (lv' := [(2, .int (nI (i + 1))), (1, .ref h1), (0, .ref h0)]) hx hb dX1_becomeLike_64 hl (k := 0) rfl (nI_1 _) (by decide) rfl (fun ls hl => ?_)
        refine lv_goto (tgt := 34) hx hb dX1_becomeLike_67 (by decide) ?_
        have hf_w0 : f63 w0 = eI g 8 (mapN (fun j _ => wt1 j) wt (i + 1)) := by rw [hf_w0, mapN_s rfl]
        exact ih34 (i + 1) f63 H locs (by omega) (by omega) hf_h0 hf_w0 hFr hP hS ls (lv_sub hl [0, 1, 2] rfl)
  exact K34 _ 0 f29 _ _ (Nat.lt_succ_self _) (Nat.zero_le _) hf_h0 hf_w0 hFr hP hS ls (lv_sub hl [0, 2, 1] rfl)

set_option maxHeartbeats 4000000 in
set_option maxRecDepth 100000 in
theorem m_X1_buyWeightsOf (l : Launch) (g : GG) (L : List Nat) (f : Nat → va_E) (sz : Nat) (hN : L.Nodup) (h0 w0 : Nat) (nu pt co ro : Int32) (wt : Nat → Int32) (h1 w1 : Nat) (nu1 pt1 co1 ro1 : Int32) (wt1 : Nat → Int32) (hL_h0 : h0 ∈ L) (hf_h0 : f h0 = eO 2 [.ref w0, .int nu, .int pt, .int co, .int ro]) (hL_w0 : w0 ∈ L) (hf_w0 : f w0 = eI g 8 wt) (hL_h1 : h1 ∈ L) (hf_h1 : f h1 = eO 2 [.ref w1, .int nu1, .int pt1, .int co1, .int ro1]) (hL_w1 : w1 ∈ L) (hf_w1 : f w1 = eI g 8 wt1) (n_h0_h1 : h0 ≠ h1) (n_w0_w1 : w0 ≠ w1) : RV l g yX1_buyWeightsOf wsX1_buyWeightsOf 0 0 L f sz [.ref h0, .ref h1] (fun f2 => f2 h0 = eO 2 [.ref w0, .int nu, .int pt, .int (co - 5), .int ro] ∧ f2 w0 = eI g 8 (mapN (fun j w => (w + wt1 j) / 2) wt 8) ∧ f2 h1 = eO 2 [.ref w1, .int nu1, .int pt1, .int (co1 + 5), .int ro1] ∧ Fr f f2 [h0, w0, h1]) := by
  refine RV.start (cc := cX1_buyWeightsOf) (maxL := 3) (by decide +kernel) rfl (by simp [lg_sl, Value.category]) ?_
  intro p e s m args below meth c Q ls A hx hb hml hts hown hA hA2 hS hP hK hl hend
  have hl : lv_has ls 3 [(0, .ref h0), (1, .ref h1)] := hl
  have hi_X1 : ∀ w ∈ u_ws RX1 TX1 5, w ∈ wsX1_buyWeightsOf := by decide +kernel
  have hFr : Fr f f [h0, w0, h1] := Fr.rf
  have n_h0_w0 : h0 ≠ w0 := ne_e hf_h0 hf_w0 (by simp)
  have n_h0_w1 : h0 ≠ w1 := ne_e hf_h0 hf_w1 (by simp)
  have n_w0_h1 : w0 ≠ h1 := ne_e hf_w0 hf_h1 (by simp)
  have n_h1_w1 : h1 ≠ w1 := ne_e hf_h1 hf_w1 (by simp)
  have h0f_h0 := hf_h0
  have h0f_w0 := hf_w0
  have h0f_h1 := hf_h1
  have h0f_w1 := hf_w1
  refine lv_aload_n hx hb dX1_buyWeightsOf_0 rfl (lv_at hl 0 rfl) ?_
  refine lv_dup hx hb dX1_buyWeightsOf_1 rfl ?_
  refine pg_get (C := RX1) (T := TX1) (N := 5) hx hb hts hi_X1 hown hK hP hL_h0 hf_h0 rfl 3 (by decide) (hts (.fieldLink RX1 19 "BarometerLeague$Village" "coins" "I") (by decide +kernel)) (fun _ h9 => h9) rfl dX1_buyWeightsOf_2 ?_
  refine lv_iconst (v := 5) hx hb dX1_buyWeightsOf_5 (by decide) ?_
  refine lv_isub hx hb dX1_buyWeightsOf_6 ?_
  refine lv_topi (fun v6 ev6 => ?_)
  refine pg_put (ty := .int) (C := RX1) (T := TX1) (N := 5) hx hb hts hi_X1 tyX1 tyX1_ok nmX1 hown hK hP hN hA hS hL_h0 hf_h0 rfl 3 (by decide) (hts (.fieldLink RX1 19 "BarometerLeague$Village" "coins" "I") (by decide +kernel)) (fun _ h9 => h9) rfl (by decide +kernel) rfl rfl (Nat.le_of_ble_eq_true rfl) dX1_buyWeightsOf_7 (fun H locs hP hS => ?_)
  obtain ⟨f7, ef7⟩ : ∃ z, z = va_up f h0 (eO 2 [.ref w0, .int nu, .int pt, .int v6, .int ro]) := ⟨_, rfl⟩
  replace hP : PP g L f7 H := by rw [ef7]; exact hP
  have hf_w0 : f7 w0 = eI g 8 wt := by rw [ef7, va_up_ne _ _ n_h0_w0.symm]; exact hf_w0
  have hf_h1 : f7 h1 = eO 2 [.ref w1, .int nu1, .int pt1, .int co1, .int ro1] := by rw [ef7, va_up_ne _ _ n_h0_h1.symm]; exact hf_h1
  have hf_w1 : f7 w1 = eI g 8 wt1 := by rw [ef7, va_up_ne _ _ n_h0_w1.symm]; exact hf_w1
  have hf_h0 : f7 h0 = eO 2 [.ref w0, .int nu, .int pt, .int v6, .int ro] := by rw [ef7]; exact va_up_self _ _ _
  replace hFr : Fr f f7 [h0, w0, h1] := by rw [ef7]; exact hFr.up (by simp)
  refine lv_aload_n hx hb dX1_buyWeightsOf_10 rfl (lv_at hl 1 rfl) ?_
  refine lv_dup hx hb dX1_buyWeightsOf_11 rfl ?_
  refine pg_get (C := RX1) (T := TX1) (N := 5) hx hb hts hi_X1 hown hK hP hL_h1 hf_h1 rfl 3 (by decide) (hts (.fieldLink RX1 19 "BarometerLeague$Village" "coins" "I") (by decide +kernel)) (fun _ h9 => h9) rfl dX1_buyWeightsOf_12 ?_
  refine lv_iconst (v := 5) hx hb dX1_buyWeightsOf_15 (by decide) ?_
  refine lv_iadd hx hb dX1_buyWeightsOf_16 ?_
  refine lv_topi (fun v16 ev16 => ?_)
  refine pg_put (ty := .int) (C := RX1) (T := TX1) (N := 5) hx hb hts hi_X1 tyX1 tyX1_ok nmX1 hown hK hP hN hA hS hL_h1 hf_h1 rfl 3 (by decide) (hts (.fieldLink RX1 19 "BarometerLeague$Village" "coins" "I") (by decide +kernel)) (fun _ h9 => h9) rfl (by decide +kernel) rfl rfl (Nat.le_of_ble_eq_true rfl) dX1_buyWeightsOf_17 (fun H locs hP hS => ?_)
  obtain ⟨f17, ef17⟩ : ∃ z, z = va_up f7 h1 (eO 2 [.ref w1, .int nu1, .int pt1, .int v16, .int ro1]) := ⟨_, rfl⟩
  replace hP : PP g L f17 H := by rw [ef17]; exact hP
  have hf_h0 : f17 h0 = eO 2 [.ref w0, .int nu, .int pt, .int v6, .int ro] := by rw [ef17, va_up_ne _ _ n_h0_h1]; exact hf_h0
  have hf_w0 : f17 w0 = eI g 8 wt := by rw [ef17, va_up_ne _ _ n_w0_h1]; exact hf_w0
  have hf_w1 : f17 w1 = eI g 8 wt1 := by rw [ef17, va_up_ne _ _ n_h1_w1.symm]; exact hf_w1
  have hf_h1 : f17 h1 = eO 2 [.ref w1, .int nu1, .int pt1, .int v16, .int ro1] := by rw [ef17]; exact va_up_self _ _ _
  replace hFr : Fr f f17 [h0, w0, h1] := by rw [ef17]; exact hFr.up (by simp)
  refine lv_iconst (v := 0) hx hb dX1_buyWeightsOf_20 (by decide) ?_
  refine lv_istore_n (lv' := [(2, .int 0), (0, .ref h0), (1, .ref h1)]) hx hb dX1_buyWeightsOf_21 rfl hl (by decide) rfl (fun ls hl => ?_)
  have hf_w0 : f17 w0 = eI g 8 (mapN (fun j w => (w + wt1 j) / 2) wt 0) := by rw [hf_w0, mapN_0]
  rw [ev6] at hf_h0
  rw [ev16] at hf_h1
  have K22 : ∀ (n22 : Nat) (i : Nat) (f22 : Nat → va_E) (H : Heap) (locs : List Loc), 8 - i < n22 → i ≤ 8 → f22 h0 = eO 2 [.ref w0, .int nu, .int pt, .int (co - 5), .int ro] → f22 h1 = eO 2 [.ref w1, .int nu1, .int pt1, .int (co1 + 5), .int ro1] → f22 w0 = eI g 8 (mapN (fun j w => (w + wt1 j) / 2) wt i) → Fr f f22 [h0, w0, h1] → PP g L f22 H → va_S A s.heap H locs → ∀ (ls : Array Slot), lv_has ls 3 [(2, .int (nI i)), (1, .ref h1), (0, .ref h0)] → W p l e ({ frames := 0, cells := 0, slots := 0, locals := 0 } : Room) s m args below meth c H locs 0 0 Q (F0 m 22 ls []) := by
    intro n22
    induction n22 with
    | zero => intros; omega
    | succ n22 ih22 =>
      intro i f22 H locs hm22 hi hq22_0 hq22_1 hq22_2 hFr hP hS ls hl
      have hf_w1 : f22 w1 = eI g 8 wt1 := hFr.get h0f_w1 (nm_c n_h0_w1.symm (nm_c n_w0_w1.symm (nm_c n_h1_w1.symm (List.not_mem_nil))))
      have hf_h0 : f22 h0 = eO 2 [.ref w0, .int nu, .int pt, .int (co - 5), .int ro] := hq22_0
      have hf_h1 : f22 h1 = eO 2 [.ref w1, .int nu1, .int pt1, .int (co1 + 5), .int ro1] := hq22_1
      have hf_w0 : f22 w0 = eI g 8 (mapN (fun j w => (w + wt1 j) / 2) wt i) := hq22_2
      refine lv_iload_n hx hb dX1_buyWeightsOf_22 rfl (lv_at hl 0 rfl) ?_
      refine lv_aload_n hx hb dX1_buyWeightsOf_23 rfl (lv_at hl 2 rfl) ?_
      refine pg_get (C := RX1) (T := TX1) (N := 5) hx hb hts hi_X1 hown hK hP hL_h0 hf_h0 rfl 0 (by decide) (hts (.fieldLink RX1 9 "BarometerLeague$Village" "weights" "[I") (by decide +kernel)) (fun _ h9 => h9) rfl dX1_buyWeightsOf_24 ?_
      refine pg_alen hx hb hK hP hL_w0 hf_w0 0 rfl (v := nI 8) rfl dX1_buyWeightsOf_27 ?_
      refine lv_icmp_ge (tgt := 67) hx hb dX1_buyWeightsOf_28 (by decide) (fun c28 => ?_) (fun c28 => ?_)
      · skip
        have c28 : 8 ≤ i := (nI_leI (a := 8) (b := i) (by omega) (by omega)).mp (show nI 8 ≤ nI i from c28)
        exact hend f22 _ _ _ _ (⟨hf_h0, by rw [hf_w0, show i = 8 from (by omega)], hf_h1, hFr⟩) hP hS dX1_buyWeightsOf_67
      · skip
        have c28 : ¬ 8 ≤ i := fun h => c28 ((nI_leI (a := 8) (b := i) (by omega) (by omega)).mpr h)
        refine lv_iload_n hx hb dX1_buyWeightsOf_31 rfl (lv_at hl 0 rfl) ?_
        refine lv_aload_n hx hb dX1_buyWeightsOf_32 rfl (lv_at hl 1 rfl) ?_
        refine pg_get (C := RX1) (T := TX1) (N := 5) hx hb hts hi_X1 hown hK hP hL_h1 hf_h1 rfl 0 (by decide) (hts (.fieldLink RX1 9 "BarometerLeague$Village" "weights" "[I") (by decide +kernel)) (fun _ h9 => h9) rfl dX1_buyWeightsOf_33 ?_
        refine pg_alen hx hb hK hP hL_w1 hf_w1 0 rfl (v := nI 8) rfl dX1_buyWeightsOf_36 ?_
        refine lv_icmp_ge (tgt := 67) hx hb dX1_buyWeightsOf_37 (by decide) (fun c37 => ?_) (fun c37 => ?_)
        · skip
          have c37 : 8 ≤ i := (nI_leI (a := 8) (b := i) (by omega) (by omega)).mp (show nI 8 ≤ nI i from c37)
          exact hend f22 _ _ _ _ (⟨hf_h0, by rw [hf_w0, show i = 8 from (by omega)], hf_h1, hFr⟩) hP hS dX1_buyWeightsOf_67
        · skip
          have c37 : ¬ 8 ≤ i := fun h => c37 ((nI_leI (a := 8) (b := i) (by omega) (by omega)).mpr h)
          refine lv_aload_n hx hb dX1_buyWeightsOf_40 rfl (lv_at hl 2 rfl) ?_
          refine pg_get (C := RX1) (T := TX1) (N := 5) hx hb hts hi_X1 hown hK hP hL_h0 hf_h0 rfl 0 (by decide) (hts (.fieldLink RX1 9 "BarometerLeague$Village" "weights" "[I") (by decide +kernel)) (fun _ h9 => h9) rfl dX1_buyWeightsOf_41 ?_
          refine lv_iload_n hx hb dX1_buyWeightsOf_44 rfl (lv_at hl 0 rfl) ?_
          refine lv_aload_n hx hb dX1_buyWeightsOf_45 rfl (lv_at hl 2 rfl) ?_
          refine pg_get (C := RX1) (T := TX1) (N := 5) hx hb hts hi_X1 hown hK hP hL_h0 hf_h0 rfl 0 (by decide) (hts (.fieldLink RX1 9 "BarometerLeague$Village" "weights" "[I") (by decide +kernel)) (fun _ h9 => h9) rfl dX1_buyWeightsOf_46 ?_
          refine lv_iload_n hx hb dX1_buyWeightsOf_49 rfl (lv_at hl 0 rfl) ?_
          refine pn_iald (j := i) hx hb hK hP hL_w0 hf_w0 rfl (by omega) (Nat.lt_of_lt_of_le (m := 100) (by omega) (by omega)) dX1_buyWeightsOf_50 ?_
          refine lv_aload_n hx hb dX1_buyWeightsOf_51 rfl (lv_at hl 1 rfl) ?_
          refine pg_get (C := RX1) (T := TX1) (N := 5) hx hb hts hi_X1 hown hK hP hL_h1 hf_h1 rfl 0 (by decide) (hts (.fieldLink RX1 9 "BarometerLeague$Village" "weights" "[I") (by decide +kernel)) (fun _ h9 => h9) rfl dX1_buyWeightsOf_52 ?_
          refine lv_iload_n hx hb dX1_buyWeightsOf_55 rfl (lv_at hl 0 rfl) ?_
          refine pn_iald (j := i) hx hb hK hP hL_w1 hf_w1 rfl (by omega) (Nat.lt_of_lt_of_le (m := 100) (by omega) (by omega)) dX1_buyWeightsOf_56 ?_
          refine lv_iadd hx hb dX1_buyWeightsOf_57 ?_
          refine lv_topi (fun v57 ev57 => ?_)
          refine lv_iconst (v := 2) hx hb dX1_buyWeightsOf_58 (by decide) ?_
          refine lv_idiv hx hb dX1_buyWeightsOf_59 (by decide) ?_
          refine lv_topi (fun v59 ev59 => ?_)
          refine pn_iast (j := i) hx hb hK hP hN hA hS hL_w0 hf_w0 rfl (by omega) (Nat.lt_of_lt_of_le (m := 100) (by omega) (by omega)) dX1_buyWeightsOf_60 (fun H locs hP hS => ?_)
          obtain ⟨f60, ef60⟩ : ∃ z, z = va_up f22 w0 (eI g 8 (upd (mapN (fun j w => (w + wt1 j) / 2) wt i) i v59)) := ⟨_, rfl⟩
          replace hP : PP g L f60 H := by rw [ef60]; exact hP
          have hf_h0 : f60 h0 = eO 2 [.ref w0, .int nu, .int pt, .int (co - 5), .int ro] := by rw [ef60, va_up_ne _ _ n_h0_w0]; exact hf_h0
          have hf_h1 : f60 h1 = eO 2 [.ref w1, .int nu1, .int pt1, .int (co1 + 5), .int ro1] := by rw [ef60, va_up_ne _ _ n_w0_h1.symm]; exact hf_h1
          have hf_w1 : f60 w1 = eI g 8 wt1 := by rw [ef60, va_up_ne _ _ n_w0_w1.symm]; exact hf_w1
          have hf_w0 : f60 w0 = eI g 8 (upd (mapN (fun j w => (w + wt1 j) / 2) wt i) i v59) := by rw [ef60]; exact va_up_self _ _ _
          replace hFr : Fr f f60 [h0, w0, h1] := by rw [ef60]; exact hFr.up (by simp)
          refine lv_iinc (v := nI (i + 1)) (lv' := [(2, .int (nI (i + 1))), (1, .ref h1), (0, .ref h0)]) hx hb dX1_buyWeightsOf_61 hl (k := 0) rfl (nI_1 _) (by decide) rfl (fun ls hl => ?_)
          refine lv_goto (tgt := 22) hx hb dX1_buyWeightsOf_64 (by decide) ?_
          have hf_w0 : f60 w0 = eI g 8 (mapN (fun j w => (w + wt1 j) / 2) wt (i + 1)) := by rw [hf_w0, mapN_s (by rw [ev59, ev57, mapN_at])]
          exact ih22 (i + 1) f60 H locs (by omega) (by omega) hf_h0 hf_h1 hf_w0 hFr hP hS ls (lv_sub hl [0, 1, 2] rfl)
  exact K22 _ 0 f17 _ _ (Nat.lt_succ_self _) (Nat.zero_le _) hf_h0 hf_h1 hf_w0 hFr hP hS ls (lv_sub hl [0, 2, 1] rfl)

set_option maxHeartbeats 4000000 in
set_option maxRecDepth 100000 in
theorem m_X1_liveDay (l : Launch) (g : GG) (L : List Nat) (f : Nat → va_E) (sz : Nat) (hN : L.Nodup) (h0 w0 : Nat) (nu pt co ro : Int32) (wt : Nat → Int32) (sy : Nat) (sa : Nat → Int32) (rb : Bool) (hL_h0 : h0 ∈ L) (hf_h0 : f h0 = eO 2 [.ref w0, .int nu, .int pt, .int co, .int ro]) (hL_w0 : w0 ∈ L) (hf_w0 : f w0 = eI g 8 wt) (hL_sy : sy ∈ L) (hf_sy : f sy = eI g 8 sa) (n_w0_sy : w0 ≠ sy) : RW l g yX1_liveDay wsX1_liveDay 2 44 L f sz [.ref h0, .ref sy, .int (b2i rb)] (fun r f2 => r = b2i (hitB (leadN sa wt 8) rb) ∧ f2 h0 = eO 2 [.ref w0, .int nu, .int (pt + b2i (hitB (leadN sa wt 8) rb)), .int (sell1 (if hitB (leadN sa wt 8) rb then ro + 1 else 0) co), .int (if hitB (leadN sa wt 8) rb then ro + 1 else 0)] ∧ f2 w0 = eI g 8 (mapN (fun j w => learn1 (truth rb) (sa j) w) wt 8) ∧ Fr f f2 [h0, w0]) := by
  refine RW.start (cc := cX1_liveDay) (maxL := 4) (ret := .boolean) (by decide +kernel) rfl (by simp [lg_sl, Value.category]) ?_
  intro p e s m args below meth c Q ls A hx hb hml hts hown hA hA2 hS hP hK hl hend
  have hl : lv_has ls 4 [(0, .ref h0), (1, .ref sy), (2, .int (b2i rb))] := hl
  have hi_X1 : ∀ w ∈ u_ws RX1 TX1 5, w ∈ wsX1_liveDay := by decide +kernel
  have hFr : Fr f f [h0, w0] := Fr.rf
  have n_h0_w0 : h0 ≠ w0 := ne_e hf_h0 hf_w0 (by simp)
  have n_h0_sy : h0 ≠ sy := ne_e hf_h0 hf_sy (by simp)
  have h0f_h0 := hf_h0
  have h0f_w0 := hf_w0
  have h0f_sy := hf_sy
  cases rb with
  | true =>
    have hl : lv_has ls 4 [(0, .ref h0), (1, .ref sy), (2, .int 1)] := hl
    refine lv_aload_n hx hb dX1_liveDay_0 rfl (lv_at hl 0 rfl) ?_
    refine lv_aload_n hx hb dX1_liveDay_1 rfl (lv_at hl 1 rfl) ?_
    refine ro_V (As := [.ref sy]) (rest := []) ⟨hx, hb, hml, hown, hts⟩ (m_X1_guessesRain l g L f _ _ _ _ _ _ _ _ _ hL_h0 hf_h0 hL_w0 hf_w0 hL_sy hf_sy) (cwV 1 hts gX1_liveDay_X1_guessesRain rfl rfl rfl (by decide +kernel) ⟨Nat.le_of_ble_eq_true rfl, Nat.le_of_ble_eq_true rfl⟩) hK hP hL_h0 hf_h0 rfl rfl hl.1 rfl (Nat.le_of_ble_eq_true rfl) dX1_liveDay_2 ⟨Nat.zero_le _, Nat.zero_le _⟩ (fun r2 hr2 => ?_)
    have hr2 : r2 = b2i (decide (0 < leadN sa wt 8)) := hr2
    subst hr2
    refine lv_iload_n hx hb dX1_liveDay_5 rfl (lv_at hl 2 rfl) ?_
    refine lv_icmp_ne (tgt := 13) hx hb dX1_liveDay_6 (by decide) (fun c6 => ?_) (fun c6 => ?_)
    · skip
      refine lv_iconst (v := 0) hx hb dX1_liveDay_13 (by decide) ?_
      have hh : hitB (leadN sa wt 8) true = false := by unfold hitB; revert c6; cases decide (0 < (leadN sa wt 8)) <;> intro c6 <;> first | rfl | exact absurd c6 (by decide) | exact absurd rfl c6
      refine lv_istore_n (lv' := [(3, .int 0), (0, .ref h0), (1, .ref sy), (2, .int 1)]) hx hb dX1_liveDay_14 rfl hl (by decide) rfl (fun ls hl => ?_)
      refine lv_aload_n hx hb dX1_liveDay_15 rfl (lv_at hl 1 rfl) ?_
      refine lv_dup hx hb dX1_liveDay_16 rfl ?_
      refine pg_get (C := RX1) (T := TX1) (N := 5) hx hb hts hi_X1 hown hK hP hL_h0 hf_h0 rfl 2 (by decide) (hts (.fieldLink RX1 28 "BarometerLeague$Village" "points" "I") (by decide +kernel)) (fun _ h9 => h9) rfl dX1_liveDay_17 ?_
      refine lv_iload_n hx hb dX1_liveDay_20 rfl (lv_at hl 0 rfl) ?_
      refine lv_if_eq (tgt := 28) hx hb dX1_liveDay_21 (by decide) (fun _ => ?_) (fun h => absurd (by decide) h)
      refine lv_iconst (v := 0) hx hb dX1_liveDay_28 (by decide) ?_
      refine lv_iadd hx hb dX1_liveDay_29 ?_
      refine lv_topi (fun v29 ev29 => ?_)
      refine pg_put (ty := .int) (C := RX1) (T := TX1) (N := 5) hx hb hts hi_X1 tyX1 tyX1_ok nmX1 hown hK hP hN hA hS hL_h0 hf_h0 rfl 2 (by decide) (hts (.fieldLink RX1 28 "BarometerLeague$Village" "points" "I") (by decide +kernel)) (fun _ h9 => h9) rfl (by decide +kernel) rfl rfl (Nat.le_of_ble_eq_true rfl) dX1_liveDay_30 (fun H locs hP hS => ?_)
      obtain ⟨f30, ef30⟩ : ∃ z, z = va_up f h0 (eO 2 [.ref w0, .int nu, .int v29, .int co, .int ro]) := ⟨_, rfl⟩
      replace hP : PP g L f30 H := by rw [ef30]; exact hP
      have hf_w0 : f30 w0 = eI g 8 wt := by rw [ef30, va_up_ne _ _ n_h0_w0.symm]; exact hf_w0
      have hf_sy : f30 sy = eI g 8 sa := by rw [ef30, va_up_ne _ _ n_h0_sy.symm]; exact hf_sy
      have hf_h0 : f30 h0 = eO 2 [.ref w0, .int nu, .int v29, .int co, .int ro] := by rw [ef30]; exact va_up_self _ _ _
      replace hFr : Fr f f30 [h0, w0] := by rw [ef30]; exact hFr.up (by simp)
      refine lv_aload_n hx hb dX1_liveDay_33 rfl (lv_at hl 1 rfl) ?_
      refine lv_iload_n hx hb dX1_liveDay_34 rfl (lv_at hl 0 rfl) ?_
      refine lv_if_eq (tgt := 47) hx hb dX1_liveDay_35 (by decide) (fun _ => ?_) (fun h => absurd (by decide) h)
      refine lv_iconst (v := 0) hx hb dX1_liveDay_47 (by decide) ?_
      refine pg_put (ty := .int) (C := RX1) (T := TX1) (N := 5) hx hb hts hi_X1 tyX1 tyX1_ok nmX1 hown hK hP hN hA hS hL_h0 hf_h0 rfl 4 (by decide) (hts (.fieldLink RX1 31 "BarometerLeague$Village" "rowOfHits" "I") (by decide +kernel)) (fun _ h9 => h9) rfl (by decide +kernel) rfl rfl (Nat.le_of_ble_eq_true rfl) dX1_liveDay_48 (fun H locs hP hS => ?_)
      obtain ⟨f48, ef48⟩ : ∃ z, z = va_up f30 h0 (eO 2 [.ref w0, .int nu, .int v29, .int co, .int 0]) := ⟨_, rfl⟩
      replace hP : PP g L f48 H := by rw [ef48]; exact hP
      have hf_w0 : f48 w0 = eI g 8 wt := by rw [ef48, va_up_ne _ _ n_h0_w0.symm]; exact hf_w0
      have hf_sy : f48 sy = eI g 8 sa := by rw [ef48, va_up_ne _ _ n_h0_sy.symm]; exact hf_sy
      have hf_h0 : f48 h0 = eO 2 [.ref w0, .int nu, .int v29, .int co, .int 0] := by rw [ef48]; exact va_up_self _ _ _
      replace hFr : Fr f f48 [h0, w0] := by rw [ef48]; exact hFr.up (by simp)
      refine lv_aload_n hx hb dX1_liveDay_51 rfl (lv_at hl 1 rfl) ?_
      refine lv_aload_n hx hb dX1_liveDay_52 rfl (lv_at hl 2 rfl) ?_
      refine lv_iload_n hx hb dX1_liveDay_53 rfl (lv_at hl 3 rfl) ?_
      refine lv_if_eq (tgt := 61) hx hb dX1_liveDay_54 (by decide) (fun h => absurd h (by decide)) (fun _ => ?_)
      refine lv_iconst (v := 1) hx hb dX1_liveDay_57 (by decide) ?_
      refine lv_goto (tgt := 62) hx hb dX1_liveDay_58 (by decide) ?_
      refine rv_V (As := [.ref sy, .int 1]) (rest := []) ⟨hx, hb, hml, hown, hts⟩ (m_X1_learn l g L f48 _ hN _ _ _ _ _ _ _ _ _ _ hL_h0 hf_h0 hL_w0 hf_w0 hL_sy hf_sy n_w0_sy) (cwV 2 hts gX1_liveDay_X1_learn rfl rfl rfl (by decide +kernel) ⟨Nat.le_of_ble_eq_true rfl, Nat.le_of_ble_eq_true rfl⟩) hK hP hA hA2 hS hL_h0 hf_h0 rfl rfl hl.1 rfl (Nat.le_of_ble_eq_true rfl) dX1_liveDay_62 ⟨Nat.zero_le _, Nat.zero_le _⟩ (fun f62 H locs hr62 hP hS => ?_)
      obtain ⟨hc62_0, hw62⟩ := hr62
      have hf_h0 : f62 h0 = eO 2 [.ref w0, .int nu, .int v29, .int co, .int 0] := hw62.get hf_h0 (nm_c n_h0_w0 (List.not_mem_nil))
      have hf_sy : f62 sy = eI g 8 sa := hw62.get hf_sy (nm_c n_w0_sy.symm (List.not_mem_nil))
      have hf_w0 : f62 w0 = eI g 8 (mapN (fun j w => learn1 1 (sa j) w) wt 8) := hc62_0
      replace hFr : Fr f f62 [h0, w0] := hFr.tr hw62 (by simp)
      refine lv_aload_n hx hb dX1_liveDay_65 rfl (lv_at hl 1 rfl) ?_
      refine rv_V (As := []) (rest := []) ⟨hx, hb, hml, hown, hts⟩ (m_X1_sellAlmanacs l g L f62 _ hN _ _ _ _ _ _ _ hL_h0 hf_h0 hL_w0 hf_w0) (cwV 0 hts gX1_liveDay_X1_sellAlmanacs rfl rfl rfl (by decide +kernel) ⟨Nat.le_of_ble_eq_true rfl, Nat.le_of_ble_eq_true rfl⟩) hK hP hA hA2 hS hL_h0 hf_h0 rfl rfl hl.1 rfl (Nat.le_of_ble_eq_true rfl) dX1_liveDay_66 ⟨Nat.zero_le _, Nat.zero_le _⟩ (fun f66 H locs hr66 hP hS => ?_)
      obtain ⟨hc66_0, hw66⟩ := hr66
      have hf_w0 : f66 w0 = eI g 8 (mapN (fun j w => learn1 1 (sa j) w) wt 8) := hw66.get hf_w0 (nm_c n_h0_w0.symm (List.not_mem_nil))
      have hf_sy : f66 sy = eI g 8 sa := hw66.get hf_sy (nm_c n_h0_sy.symm (List.not_mem_nil))
      have hf_h0 : f66 h0 = eO 2 [.ref w0, .int nu, .int v29, .int (sell1 0 co), .int 0] := hc66_0
      replace hFr : Fr f f66 [h0, w0] := hFr.tr hw66 (by simp)
      refine lv_iload_n hx hb dX1_liveDay_69 rfl (lv_at hl 0 rfl) ?_
      exact hend (0) f66 _ _ _ _ (⟨by rw [hh]; rfl, by rw [hf_h0, hh]; first | rfl | (rw [ev29]; rfl), hf_w0, hFr⟩) hP hS rfl dX1_liveDay_70
    · skip
      refine lv_iconst (v := 1) hx hb dX1_liveDay_9 (by decide) ?_
      refine lv_goto (tgt := 14) hx hb dX1_liveDay_10 (by decide) ?_
      have hh : hitB (leadN sa wt 8) true = true := by unfold hitB; revert c6; cases decide (0 < (leadN sa wt 8)) <;> intro c6 <;> first | rfl | exact absurd c6 (by decide) | exact absurd rfl c6
      refine lv_istore_n (lv' := [(3, .int 1), (0, .ref h0), (1, .ref sy), (2, .int 1)]) hx hb dX1_liveDay_14 rfl hl (by decide) rfl (fun ls hl => ?_)
      refine lv_aload_n hx hb dX1_liveDay_15 rfl (lv_at hl 1 rfl) ?_
      refine lv_dup hx hb dX1_liveDay_16 rfl ?_
      refine pg_get (C := RX1) (T := TX1) (N := 5) hx hb hts hi_X1 hown hK hP hL_h0 hf_h0 rfl 2 (by decide) (hts (.fieldLink RX1 28 "BarometerLeague$Village" "points" "I") (by decide +kernel)) (fun _ h9 => h9) rfl dX1_liveDay_17 ?_
      refine lv_iload_n hx hb dX1_liveDay_20 rfl (lv_at hl 0 rfl) ?_
      refine lv_if_eq (tgt := 28) hx hb dX1_liveDay_21 (by decide) (fun h => absurd h (by decide)) (fun _ => ?_)
      refine lv_iconst (v := 1) hx hb dX1_liveDay_24 (by decide) ?_
      refine lv_goto (tgt := 29) hx hb dX1_liveDay_25 (by decide) ?_
      refine lv_iadd hx hb dX1_liveDay_29 ?_
      refine lv_topi (fun v29 ev29 => ?_)
      refine pg_put (ty := .int) (C := RX1) (T := TX1) (N := 5) hx hb hts hi_X1 tyX1 tyX1_ok nmX1 hown hK hP hN hA hS hL_h0 hf_h0 rfl 2 (by decide) (hts (.fieldLink RX1 28 "BarometerLeague$Village" "points" "I") (by decide +kernel)) (fun _ h9 => h9) rfl (by decide +kernel) rfl rfl (Nat.le_of_ble_eq_true rfl) dX1_liveDay_30 (fun H locs hP hS => ?_)
      obtain ⟨f30, ef30⟩ : ∃ z, z = va_up f h0 (eO 2 [.ref w0, .int nu, .int v29, .int co, .int ro]) := ⟨_, rfl⟩
      replace hP : PP g L f30 H := by rw [ef30]; exact hP
      have hf_w0 : f30 w0 = eI g 8 wt := by rw [ef30, va_up_ne _ _ n_h0_w0.symm]; exact hf_w0
      have hf_sy : f30 sy = eI g 8 sa := by rw [ef30, va_up_ne _ _ n_h0_sy.symm]; exact hf_sy
      have hf_h0 : f30 h0 = eO 2 [.ref w0, .int nu, .int v29, .int co, .int ro] := by rw [ef30]; exact va_up_self _ _ _
      replace hFr : Fr f f30 [h0, w0] := by rw [ef30]; exact hFr.up (by simp)
      refine lv_aload_n hx hb dX1_liveDay_33 rfl (lv_at hl 1 rfl) ?_
      refine lv_iload_n hx hb dX1_liveDay_34 rfl (lv_at hl 0 rfl) ?_
      refine lv_if_eq (tgt := 47) hx hb dX1_liveDay_35 (by decide) (fun h => absurd h (by decide)) (fun _ => ?_)
      refine lv_aload_n hx hb dX1_liveDay_38 rfl (lv_at hl 1 rfl) ?_
      refine pg_get (C := RX1) (T := TX1) (N := 5) hx hb hts hi_X1 hown hK hP hL_h0 hf_h0 rfl 4 (by decide) (hts (.fieldLink RX1 31 "BarometerLeague$Village" "rowOfHits" "I") (by decide +kernel)) (fun _ h9 => h9) rfl dX1_liveDay_39 ?_
      refine lv_iconst (v := 1) hx hb dX1_liveDay_42 (by decide) ?_
      refine lv_iadd hx hb dX1_liveDay_43 ?_
      refine lv_topi (fun v43 ev43 => ?_)
      refine lv_goto (tgt := 48) hx hb dX1_liveDay_44 (by decide) ?_
      refine pg_put (ty := .int) (C := RX1) (T := TX1) (N := 5) hx hb hts hi_X1 tyX1 tyX1_ok nmX1 hown hK hP hN hA hS hL_h0 hf_h0 rfl 4 (by decide) (hts (.fieldLink RX1 31 "BarometerLeague$Village" "rowOfHits" "I") (by decide +kernel)) (fun _ h9 => h9) rfl (by decide +kernel) rfl rfl (Nat.le_of_ble_eq_true rfl) dX1_liveDay_48 (fun H locs hP hS => ?_)
      obtain ⟨f48, ef48⟩ : ∃ z, z = va_up f30 h0 (eO 2 [.ref w0, .int nu, .int v29, .int co, .int v43]) := ⟨_, rfl⟩
      replace hP : PP g L f48 H := by rw [ef48]; exact hP
      have hf_w0 : f48 w0 = eI g 8 wt := by rw [ef48, va_up_ne _ _ n_h0_w0.symm]; exact hf_w0
      have hf_sy : f48 sy = eI g 8 sa := by rw [ef48, va_up_ne _ _ n_h0_sy.symm]; exact hf_sy
      have hf_h0 : f48 h0 = eO 2 [.ref w0, .int nu, .int v29, .int co, .int v43] := by rw [ef48]; exact va_up_self _ _ _
      replace hFr : Fr f f48 [h0, w0] := by rw [ef48]; exact hFr.up (by simp)
      refine lv_aload_n hx hb dX1_liveDay_51 rfl (lv_at hl 1 rfl) ?_
      refine lv_aload_n hx hb dX1_liveDay_52 rfl (lv_at hl 2 rfl) ?_
      refine lv_iload_n hx hb dX1_liveDay_53 rfl (lv_at hl 3 rfl) ?_
      refine lv_if_eq (tgt := 61) hx hb dX1_liveDay_54 (by decide) (fun h => absurd h (by decide)) (fun _ => ?_)
      refine lv_iconst (v := 1) hx hb dX1_liveDay_57 (by decide) ?_
      refine lv_goto (tgt := 62) hx hb dX1_liveDay_58 (by decide) ?_
      refine rv_V (As := [.ref sy, .int 1]) (rest := []) ⟨hx, hb, hml, hown, hts⟩ (m_X1_learn l g L f48 _ hN _ _ _ _ _ _ _ _ _ _ hL_h0 hf_h0 hL_w0 hf_w0 hL_sy hf_sy n_w0_sy) (cwV 2 hts gX1_liveDay_X1_learn rfl rfl rfl (by decide +kernel) ⟨Nat.le_of_ble_eq_true rfl, Nat.le_of_ble_eq_true rfl⟩) hK hP hA hA2 hS hL_h0 hf_h0 rfl rfl hl.1 rfl (Nat.le_of_ble_eq_true rfl) dX1_liveDay_62 ⟨Nat.zero_le _, Nat.zero_le _⟩ (fun f62 H locs hr62 hP hS => ?_)
      obtain ⟨hc62_0, hw62⟩ := hr62
      have hf_h0 : f62 h0 = eO 2 [.ref w0, .int nu, .int v29, .int co, .int v43] := hw62.get hf_h0 (nm_c n_h0_w0 (List.not_mem_nil))
      have hf_sy : f62 sy = eI g 8 sa := hw62.get hf_sy (nm_c n_w0_sy.symm (List.not_mem_nil))
      have hf_w0 : f62 w0 = eI g 8 (mapN (fun j w => learn1 1 (sa j) w) wt 8) := hc62_0
      replace hFr : Fr f f62 [h0, w0] := hFr.tr hw62 (by simp)
      refine lv_aload_n hx hb dX1_liveDay_65 rfl (lv_at hl 1 rfl) ?_
      refine rv_V (As := []) (rest := []) ⟨hx, hb, hml, hown, hts⟩ (m_X1_sellAlmanacs l g L f62 _ hN _ _ _ _ _ _ _ hL_h0 hf_h0 hL_w0 hf_w0) (cwV 0 hts gX1_liveDay_X1_sellAlmanacs rfl rfl rfl (by decide +kernel) ⟨Nat.le_of_ble_eq_true rfl, Nat.le_of_ble_eq_true rfl⟩) hK hP hA hA2 hS hL_h0 hf_h0 rfl rfl hl.1 rfl (Nat.le_of_ble_eq_true rfl) dX1_liveDay_66 ⟨Nat.zero_le _, Nat.zero_le _⟩ (fun f66 H locs hr66 hP hS => ?_)
      obtain ⟨hc66_0, hw66⟩ := hr66
      have hf_w0 : f66 w0 = eI g 8 (mapN (fun j w => learn1 1 (sa j) w) wt 8) := hw66.get hf_w0 (nm_c n_h0_w0.symm (List.not_mem_nil))
      have hf_sy : f66 sy = eI g 8 sa := hw66.get hf_sy (nm_c n_h0_sy.symm (List.not_mem_nil))
      have hf_h0 : f66 h0 = eO 2 [.ref w0, .int nu, .int v29, .int (sell1 v43 co), .int v43] := hc66_0
      replace hFr : Fr f f66 [h0, w0] := hFr.tr hw66 (by simp)
      refine lv_iload_n hx hb dX1_liveDay_69 rfl (lv_at hl 0 rfl) ?_
      exact hend (1) f66 _ _ _ _ (⟨by rw [hh]; rfl, by rw [hf_h0, hh]; first | rfl | (rw [ev29, ev43]; rfl), hf_w0, hFr⟩) hP hS rfl dX1_liveDay_70
  | false =>
    have hl : lv_has ls 4 [(0, .ref h0), (1, .ref sy), (2, .int 0)] := hl
    refine lv_aload_n hx hb dX1_liveDay_0 rfl (lv_at hl 0 rfl) ?_
    refine lv_aload_n hx hb dX1_liveDay_1 rfl (lv_at hl 1 rfl) ?_
    refine ro_V (As := [.ref sy]) (rest := []) ⟨hx, hb, hml, hown, hts⟩ (m_X1_guessesRain l g L f _ _ _ _ _ _ _ _ _ hL_h0 hf_h0 hL_w0 hf_w0 hL_sy hf_sy) (cwV 1 hts gX1_liveDay_X1_guessesRain rfl rfl rfl (by decide +kernel) ⟨Nat.le_of_ble_eq_true rfl, Nat.le_of_ble_eq_true rfl⟩) hK hP hL_h0 hf_h0 rfl rfl hl.1 rfl (Nat.le_of_ble_eq_true rfl) dX1_liveDay_2 ⟨Nat.zero_le _, Nat.zero_le _⟩ (fun r2 hr2 => ?_)
    have hr2 : r2 = b2i (decide (0 < leadN sa wt 8)) := hr2
    subst hr2
    refine lv_iload_n hx hb dX1_liveDay_5 rfl (lv_at hl 2 rfl) ?_
    refine lv_icmp_ne (tgt := 13) hx hb dX1_liveDay_6 (by decide) (fun c6 => ?_) (fun c6 => ?_)
    · skip
      refine lv_iconst (v := 0) hx hb dX1_liveDay_13 (by decide) ?_
      have hh : hitB (leadN sa wt 8) false = false := by unfold hitB; revert c6; cases decide (0 < (leadN sa wt 8)) <;> intro c6 <;> first | rfl | exact absurd c6 (by decide) | exact absurd rfl c6
      refine lv_istore_n (lv' := [(3, .int 0), (0, .ref h0), (1, .ref sy), (2, .int 0)]) hx hb dX1_liveDay_14 rfl hl (by decide) rfl (fun ls hl => ?_)
      refine lv_aload_n hx hb dX1_liveDay_15 rfl (lv_at hl 1 rfl) ?_
      refine lv_dup hx hb dX1_liveDay_16 rfl ?_
      refine pg_get (C := RX1) (T := TX1) (N := 5) hx hb hts hi_X1 hown hK hP hL_h0 hf_h0 rfl 2 (by decide) (hts (.fieldLink RX1 28 "BarometerLeague$Village" "points" "I") (by decide +kernel)) (fun _ h9 => h9) rfl dX1_liveDay_17 ?_
      refine lv_iload_n hx hb dX1_liveDay_20 rfl (lv_at hl 0 rfl) ?_
      refine lv_if_eq (tgt := 28) hx hb dX1_liveDay_21 (by decide) (fun _ => ?_) (fun h => absurd (by decide) h)
      refine lv_iconst (v := 0) hx hb dX1_liveDay_28 (by decide) ?_
      refine lv_iadd hx hb dX1_liveDay_29 ?_
      refine lv_topi (fun v29 ev29 => ?_)
      refine pg_put (ty := .int) (C := RX1) (T := TX1) (N := 5) hx hb hts hi_X1 tyX1 tyX1_ok nmX1 hown hK hP hN hA hS hL_h0 hf_h0 rfl 2 (by decide) (hts (.fieldLink RX1 28 "BarometerLeague$Village" "points" "I") (by decide +kernel)) (fun _ h9 => h9) rfl (by decide +kernel) rfl rfl (Nat.le_of_ble_eq_true rfl) dX1_liveDay_30 (fun H locs hP hS => ?_)
      obtain ⟨f30, ef30⟩ : ∃ z, z = va_up f h0 (eO 2 [.ref w0, .int nu, .int v29, .int co, .int ro]) := ⟨_, rfl⟩
      replace hP : PP g L f30 H := by rw [ef30]; exact hP
      have hf_w0 : f30 w0 = eI g 8 wt := by rw [ef30, va_up_ne _ _ n_h0_w0.symm]; exact hf_w0
      have hf_sy : f30 sy = eI g 8 sa := by rw [ef30, va_up_ne _ _ n_h0_sy.symm]; exact hf_sy
      have hf_h0 : f30 h0 = eO 2 [.ref w0, .int nu, .int v29, .int co, .int ro] := by rw [ef30]; exact va_up_self _ _ _
      replace hFr : Fr f f30 [h0, w0] := by rw [ef30]; exact hFr.up (by simp)
      refine lv_aload_n hx hb dX1_liveDay_33 rfl (lv_at hl 1 rfl) ?_
      refine lv_iload_n hx hb dX1_liveDay_34 rfl (lv_at hl 0 rfl) ?_
      refine lv_if_eq (tgt := 47) hx hb dX1_liveDay_35 (by decide) (fun _ => ?_) (fun h => absurd (by decide) h)
      refine lv_iconst (v := 0) hx hb dX1_liveDay_47 (by decide) ?_
      refine pg_put (ty := .int) (C := RX1) (T := TX1) (N := 5) hx hb hts hi_X1 tyX1 tyX1_ok nmX1 hown hK hP hN hA hS hL_h0 hf_h0 rfl 4 (by decide) (hts (.fieldLink RX1 31 "BarometerLeague$Village" "rowOfHits" "I") (by decide +kernel)) (fun _ h9 => h9) rfl (by decide +kernel) rfl rfl (Nat.le_of_ble_eq_true rfl) dX1_liveDay_48 (fun H locs hP hS => ?_)
      obtain ⟨f48, ef48⟩ : ∃ z, z = va_up f30 h0 (eO 2 [.ref w0, .int nu, .int v29, .int co, .int 0]) := ⟨_, rfl⟩
      replace hP : PP g L f48 H := by rw [ef48]; exact hP
      have hf_w0 : f48 w0 = eI g 8 wt := by rw [ef48, va_up_ne _ _ n_h0_w0.symm]; exact hf_w0
      have hf_sy : f48 sy = eI g 8 sa := by rw [ef48, va_up_ne _ _ n_h0_sy.symm]; exact hf_sy
      have hf_h0 : f48 h0 = eO 2 [.ref w0, .int nu, .int v29, .int co, .int 0] := by rw [ef48]; exact va_up_self _ _ _
      replace hFr : Fr f f48 [h0, w0] := by rw [ef48]; exact hFr.up (by simp)
      refine lv_aload_n hx hb dX1_liveDay_51 rfl (lv_at hl 1 rfl) ?_
      refine lv_aload_n hx hb dX1_liveDay_52 rfl (lv_at hl 2 rfl) ?_
      refine lv_iload_n hx hb dX1_liveDay_53 rfl (lv_at hl 3 rfl) ?_
      refine lv_if_eq (tgt := 61) hx hb dX1_liveDay_54 (by decide) (fun _ => ?_) (fun h => absurd (by decide) h)
      refine lv_iconst (v := (-1)) hx hb dX1_liveDay_61 (by decide) ?_
      refine rv_V (As := [.ref sy, .int (-1)]) (rest := []) ⟨hx, hb, hml, hown, hts⟩ (m_X1_learn l g L f48 _ hN _ _ _ _ _ _ _ _ _ _ hL_h0 hf_h0 hL_w0 hf_w0 hL_sy hf_sy n_w0_sy) (cwV 2 hts gX1_liveDay_X1_learn rfl rfl rfl (by decide +kernel) ⟨Nat.le_of_ble_eq_true rfl, Nat.le_of_ble_eq_true rfl⟩) hK hP hA hA2 hS hL_h0 hf_h0 rfl rfl hl.1 rfl (Nat.le_of_ble_eq_true rfl) dX1_liveDay_62 ⟨Nat.zero_le _, Nat.zero_le _⟩ (fun f62 H locs hr62 hP hS => ?_)
      obtain ⟨hc62_0, hw62⟩ := hr62
      have hf_h0 : f62 h0 = eO 2 [.ref w0, .int nu, .int v29, .int co, .int 0] := hw62.get hf_h0 (nm_c n_h0_w0 (List.not_mem_nil))
      have hf_sy : f62 sy = eI g 8 sa := hw62.get hf_sy (nm_c n_w0_sy.symm (List.not_mem_nil))
      have hf_w0 : f62 w0 = eI g 8 (mapN (fun j w => learn1 (-1) (sa j) w) wt 8) := hc62_0
      replace hFr : Fr f f62 [h0, w0] := hFr.tr hw62 (by simp)
      refine lv_aload_n hx hb dX1_liveDay_65 rfl (lv_at hl 1 rfl) ?_
      refine rv_V (As := []) (rest := []) ⟨hx, hb, hml, hown, hts⟩ (m_X1_sellAlmanacs l g L f62 _ hN _ _ _ _ _ _ _ hL_h0 hf_h0 hL_w0 hf_w0) (cwV 0 hts gX1_liveDay_X1_sellAlmanacs rfl rfl rfl (by decide +kernel) ⟨Nat.le_of_ble_eq_true rfl, Nat.le_of_ble_eq_true rfl⟩) hK hP hA hA2 hS hL_h0 hf_h0 rfl rfl hl.1 rfl (Nat.le_of_ble_eq_true rfl) dX1_liveDay_66 ⟨Nat.zero_le _, Nat.zero_le _⟩ (fun f66 H locs hr66 hP hS => ?_)
      obtain ⟨hc66_0, hw66⟩ := hr66
      have hf_w0 : f66 w0 = eI g 8 (mapN (fun j w => learn1 (-1) (sa j) w) wt 8) := hw66.get hf_w0 (nm_c n_h0_w0.symm (List.not_mem_nil))
      have hf_sy : f66 sy = eI g 8 sa := hw66.get hf_sy (nm_c n_h0_sy.symm (List.not_mem_nil))
      have hf_h0 : f66 h0 = eO 2 [.ref w0, .int nu, .int v29, .int (sell1 0 co), .int 0] := hc66_0
      replace hFr : Fr f f66 [h0, w0] := hFr.tr hw66 (by simp)
      refine lv_iload_n hx hb dX1_liveDay_69 rfl (lv_at hl 0 rfl) ?_
      exact hend (0) f66 _ _ _ _ (⟨by rw [hh]; rfl, by rw [hf_h0, hh]; first | rfl | (rw [ev29]; rfl), hf_w0, hFr⟩) hP hS rfl dX1_liveDay_70
    · skip
      refine lv_iconst (v := 1) hx hb dX1_liveDay_9 (by decide) ?_
      refine lv_goto (tgt := 14) hx hb dX1_liveDay_10 (by decide) ?_
      have hh : hitB (leadN sa wt 8) false = true := by unfold hitB; revert c6; cases decide (0 < (leadN sa wt 8)) <;> intro c6 <;> first | rfl | exact absurd c6 (by decide) | exact absurd rfl c6
      refine lv_istore_n (lv' := [(3, .int 1), (0, .ref h0), (1, .ref sy), (2, .int 0)]) hx hb dX1_liveDay_14 rfl hl (by decide) rfl (fun ls hl => ?_)
      refine lv_aload_n hx hb dX1_liveDay_15 rfl (lv_at hl 1 rfl) ?_
      refine lv_dup hx hb dX1_liveDay_16 rfl ?_
      refine pg_get (C := RX1) (T := TX1) (N := 5) hx hb hts hi_X1 hown hK hP hL_h0 hf_h0 rfl 2 (by decide) (hts (.fieldLink RX1 28 "BarometerLeague$Village" "points" "I") (by decide +kernel)) (fun _ h9 => h9) rfl dX1_liveDay_17 ?_
      refine lv_iload_n hx hb dX1_liveDay_20 rfl (lv_at hl 0 rfl) ?_
      refine lv_if_eq (tgt := 28) hx hb dX1_liveDay_21 (by decide) (fun h => absurd h (by decide)) (fun _ => ?_)
      refine lv_iconst (v := 1) hx hb dX1_liveDay_24 (by decide) ?_
      refine lv_goto (tgt := 29) hx hb dX1_liveDay_25 (by decide) ?_
      refine lv_iadd hx hb dX1_liveDay_29 ?_
      refine lv_topi (fun v29 ev29 => ?_)
      refine pg_put (ty := .int) (C := RX1) (T := TX1) (N := 5) hx hb hts hi_X1 tyX1 tyX1_ok nmX1 hown hK hP hN hA hS hL_h0 hf_h0 rfl 2 (by decide) (hts (.fieldLink RX1 28 "BarometerLeague$Village" "points" "I") (by decide +kernel)) (fun _ h9 => h9) rfl (by decide +kernel) rfl rfl (Nat.le_of_ble_eq_true rfl) dX1_liveDay_30 (fun H locs hP hS => ?_)
      obtain ⟨f30, ef30⟩ : ∃ z, z = va_up f h0 (eO 2 [.ref w0, .int nu, .int v29, .int co, .int ro]) := ⟨_, rfl⟩
      replace hP : PP g L f30 H := by rw [ef30]; exact hP
      have hf_w0 : f30 w0 = eI g 8 wt := by rw [ef30, va_up_ne _ _ n_h0_w0.symm]; exact hf_w0
      have hf_sy : f30 sy = eI g 8 sa := by rw [ef30, va_up_ne _ _ n_h0_sy.symm]; exact hf_sy
      have hf_h0 : f30 h0 = eO 2 [.ref w0, .int nu, .int v29, .int co, .int ro] := by rw [ef30]; exact va_up_self _ _ _
      replace hFr : Fr f f30 [h0, w0] := by rw [ef30]; exact hFr.up (by simp)
      refine lv_aload_n hx hb dX1_liveDay_33 rfl (lv_at hl 1 rfl) ?_
      refine lv_iload_n hx hb dX1_liveDay_34 rfl (lv_at hl 0 rfl) ?_
      refine lv_if_eq (tgt := 47) hx hb dX1_liveDay_35 (by decide) (fun h => absurd h (by decide)) (fun _ => ?_)
      refine lv_aload_n hx hb dX1_liveDay_38 rfl (lv_at hl 1 rfl) ?_
      refine pg_get (C := RX1) (T := TX1) (N := 5) hx hb hts hi_X1 hown hK hP hL_h0 hf_h0 rfl 4 (by decide) (hts (.fieldLink RX1 31 "BarometerLeague$Village" "rowOfHits" "I") (by decide +kernel)) (fun _ h9 => h9) rfl dX1_liveDay_39 ?_
      refine lv_iconst (v := 1) hx hb dX1_liveDay_42 (by decide) ?_
      refine lv_iadd hx hb dX1_liveDay_43 ?_
      refine lv_topi (fun v43 ev43 => ?_)
      refine lv_goto (tgt := 48) hx hb dX1_liveDay_44 (by decide) ?_
      refine pg_put (ty := .int) (C := RX1) (T := TX1) (N := 5) hx hb hts hi_X1 tyX1 tyX1_ok nmX1 hown hK hP hN hA hS hL_h0 hf_h0 rfl 4 (by decide) (hts (.fieldLink RX1 31 "BarometerLeague$Village" "rowOfHits" "I") (by decide +kernel)) (fun _ h9 => h9) rfl (by decide +kernel) rfl rfl (Nat.le_of_ble_eq_true rfl) dX1_liveDay_48 (fun H locs hP hS => ?_)
      obtain ⟨f48, ef48⟩ : ∃ z, z = va_up f30 h0 (eO 2 [.ref w0, .int nu, .int v29, .int co, .int v43]) := ⟨_, rfl⟩
      replace hP : PP g L f48 H := by rw [ef48]; exact hP
      have hf_w0 : f48 w0 = eI g 8 wt := by rw [ef48, va_up_ne _ _ n_h0_w0.symm]; exact hf_w0
      have hf_sy : f48 sy = eI g 8 sa := by rw [ef48, va_up_ne _ _ n_h0_sy.symm]; exact hf_sy
      have hf_h0 : f48 h0 = eO 2 [.ref w0, .int nu, .int v29, .int co, .int v43] := by rw [ef48]; exact va_up_self _ _ _
      replace hFr : Fr f f48 [h0, w0] := by rw [ef48]; exact hFr.up (by simp)
      refine lv_aload_n hx hb dX1_liveDay_51 rfl (lv_at hl 1 rfl) ?_
      refine lv_aload_n hx hb dX1_liveDay_52 rfl (lv_at hl 2 rfl) ?_
      refine lv_iload_n hx hb dX1_liveDay_53 rfl (lv_at hl 3 rfl) ?_
      refine lv_if_eq (tgt := 61) hx hb dX1_liveDay_54 (by decide) (fun _ => ?_) (fun h => absurd (by decide) h)
      refine lv_iconst (v := (-1)) hx hb dX1_liveDay_61 (by decide) ?_
      refine rv_V (As := [.ref sy, .int (-1)]) (rest := []) ⟨hx, hb, hml, hown, hts⟩ (m_X1_learn l g L f48 _ hN _ _ _ _ _ _ _ _ _ _ hL_h0 hf_h0 hL_w0 hf_w0 hL_sy hf_sy n_w0_sy) (cwV 2 hts gX1_liveDay_X1_learn rfl rfl rfl (by decide +kernel) ⟨Nat.le_of_ble_eq_true rfl, Nat.le_of_ble_eq_true rfl⟩) hK hP hA hA2 hS hL_h0 hf_h0 rfl rfl hl.1 rfl (Nat.le_of_ble_eq_true rfl) dX1_liveDay_62 ⟨Nat.zero_le _, Nat.zero_le _⟩ (fun f62 H locs hr62 hP hS => ?_)
      obtain ⟨hc62_0, hw62⟩ := hr62
      have hf_h0 : f62 h0 = eO 2 [.ref w0, .int nu, .int v29, .int co, .int v43] := hw62.get hf_h0 (nm_c n_h0_w0 (List.not_mem_nil))
      have hf_sy : f62 sy = eI g 8 sa := hw62.get hf_sy (nm_c n_w0_sy.symm (List.not_mem_nil))
      have hf_w0 : f62 w0 = eI g 8 (mapN (fun j w => learn1 (-1) (sa j) w) wt 8) := hc62_0
      replace hFr : Fr f f62 [h0, w0] := hFr.tr hw62 (by simp)
      refine lv_aload_n hx hb dX1_liveDay_65 rfl (lv_at hl 1 rfl) ?_
      refine rv_V (As := []) (rest := []) ⟨hx, hb, hml, hown, hts⟩ (m_X1_sellAlmanacs l g L f62 _ hN _ _ _ _ _ _ _ hL_h0 hf_h0 hL_w0 hf_w0) (cwV 0 hts gX1_liveDay_X1_sellAlmanacs rfl rfl rfl (by decide +kernel) ⟨Nat.le_of_ble_eq_true rfl, Nat.le_of_ble_eq_true rfl⟩) hK hP hA hA2 hS hL_h0 hf_h0 rfl rfl hl.1 rfl (Nat.le_of_ble_eq_true rfl) dX1_liveDay_66 ⟨Nat.zero_le _, Nat.zero_le _⟩ (fun f66 H locs hr66 hP hS => ?_)
      obtain ⟨hc66_0, hw66⟩ := hr66
      have hf_w0 : f66 w0 = eI g 8 (mapN (fun j w => learn1 (-1) (sa j) w) wt 8) := hw66.get hf_w0 (nm_c n_h0_w0.symm (List.not_mem_nil))
      have hf_sy : f66 sy = eI g 8 sa := hw66.get hf_sy (nm_c n_h0_sy.symm (List.not_mem_nil))
      have hf_h0 : f66 h0 = eO 2 [.ref w0, .int nu, .int v29, .int (sell1 v43 co), .int v43] := hc66_0
      replace hFr : Fr f f66 [h0, w0] := hFr.tr hw66 (by simp)
      refine lv_iload_n hx hb dX1_liveDay_69 rfl (lv_at hl 0 rfl) ?_
      exact hend (1) f66 _ _ _ _ (⟨by rw [hh]; rfl, by rw [hf_h0, hh]; first | rfl | (rw [ev29, ev43]; rfl), hf_w0, hFr⟩) hP hS rfl dX1_liveDay_70
