set_option maxHeartbeats 4000000 in
set_option maxRecDepth 100000 in
theorem m_X0_saysRain (l : Launch) (g : GG) (L : List Nat) (f : Nat → va_E) (h0 hw ga ra : Nat) (k n : Int32) (gl rn : Nat → Int32) (d : Nat) (hL_h0 : h0 ∈ L) (hf_h0 : f h0 = eO 1 [.int k, .int n]) (hL_hw : hw ∈ L) (hf_hw : f hw = eO 4 [.ref ga, .ref ra]) (hL_ga : ga ∈ L) (hf_ga : f ga = eI g 12 gl) (hL_ra : ra ∈ L) (hf_ra : f ra = eZ g 12 rn) (hrn : ∀ k, k < 12 → ∃ b, rn k = b2i b) (hd : d < 2 ^ 30) : RO l g yX0_saysRain wsX0_saysRain 2 43 L f [.ref h0, .ref hw, .int (nI d)] (fun r => r = b2i (sayB k n gl rn d)) := by
  refine RO.start (cc := cX0_saysRain) (maxL := 6) (ret := .boolean) (by decide +kernel) rfl (by simp [lg_sl, Value.category]) ?_
  intro p e s m args below meth c Q ls hx hb hml hts hown hP hK hl hend
  have hl : lv_has ls 6 [(0, .ref h0), (1, .ref hw), (2, .int (nI d))] := hl
  have hi_X0 : ∀ w ∈ u_ws RX0 TX0 2, w ∈ wsX0_saysRain := by decide +kernel
  have n_h0_hw : h0 ≠ hw := ne_e hf_h0 hf_hw (by simp)
  have n_h0_ga : h0 ≠ ga := ne_e hf_h0 hf_ga (by simp)
  have n_h0_ra : h0 ≠ ra := ne_e hf_h0 hf_ra (by simp)
  have n_hw_ga : hw ≠ ga := ne_e hf_hw hf_ga (by simp)
  have n_hw_ra : hw ≠ ra := ne_e hf_hw hf_ra (by simp)
  refine lv_aload_n hx hb dX0_saysRain_0 rfl (lv_at hl 1 rfl) ?_
  refine lv_iload_n hx hb dX0_saysRain_1 rfl (lv_at hl 2 rfl) ?_
  refine ro_V (As := [.int (nI d)]) (rest := []) ⟨hx, hb, hml, hown, hts⟩ (m_X3_glassOn l g L f _ _ _ _ _ _ (d % 12) hL_hw hf_hw hL_ga hf_ga hL_ra hf_ra (dIx_n hd)) (cwV 1 hts gX0_saysRain_X3_glassOn rfl rfl rfl (by decide +kernel) ⟨Nat.le_of_ble_eq_true rfl, Nat.le_of_ble_eq_true rfl⟩) hK hP hL_hw hf_hw rfl rfl hl.1 rfl (Nat.le_of_ble_eq_true rfl) dX0_saysRain_2 ⟨Nat.zero_le _, Nat.zero_le _⟩ (fun r2 hr2 => ?_)
  have hr2 : r2 = gl (d % 12) := hr2
  subst hr2
  refine lv_istore_n (lv' := [(3, .int (gl (d % 12))), (0, .ref h0), (1, .ref hw), (2, .int (nI d))]) hx hb dX0_saysRain_5 rfl hl (by decide) rfl (fun ls hl => ?_)
  refine lv_aload_n hx hb dX0_saysRain_6 rfl (lv_at hl 2 rfl) ?_
  refine lv_iload_n hx hb dX0_saysRain_7 rfl (lv_at hl 3 rfl) ?_
  refine lv_iconst (v := 1) hx hb dX0_saysRain_8 (by decide) ?_
  refine lv_isub hx hb dX0_saysRain_9 ?_
  refine lv_topi (fun v9 ev9 => ?_)
  refine ro_V (As := [.int v9]) (rest := []) ⟨hx, hb, hml, hown, hts⟩ (m_X3_glassOn l g L f _ _ _ _ _ _ ((d + 11) % 12) hL_hw hf_hw hL_ga hf_ga hL_ra hf_ra (dIx_p hd ev9)) (cwV 1 hts gX0_saysRain_X3_glassOn rfl rfl rfl (by decide +kernel) ⟨Nat.le_of_ble_eq_true rfl, Nat.le_of_ble_eq_true rfl⟩) hK hP hL_hw hf_hw rfl rfl hl.1 rfl (Nat.le_of_ble_eq_true rfl) dX0_saysRain_10 ⟨Nat.zero_le _, Nat.zero_le _⟩ (fun r10 hr10 => ?_)
  have hr10 : r10 = gl ((d + 11) % 12) := hr10
  subst hr10
  refine lv_istore (lv' := [(4, .int (gl ((d + 11) % 12))), (3, .int (gl (d % 12))), (0, .ref h0), (1, .ref hw), (2, .int (nI d))]) hx hb dX0_saysRain_13 hl (by decide) rfl (fun ls hl => ?_)
  refine lv_aload_n hx hb dX0_saysRain_15 rfl (lv_at hl 3 rfl) ?_
  refine lv_iload_n hx hb dX0_saysRain_16 rfl (lv_at hl 4 rfl) ?_
  refine lv_iconst (v := 1) hx hb dX0_saysRain_17 (by decide) ?_
  refine lv_isub hx hb dX0_saysRain_18 ?_
  refine lv_topi (fun v18 ev18 => ?_)
  refine ro_V (As := [.int v18]) (rest := []) ⟨hx, hb, hml, hown, hts⟩ (m_X3_rainsOn l g L f _ _ _ _ _ _ ((d + 11) % 12) hL_hw hf_hw hL_ga hf_ga hL_ra hf_ra (dIx_p hd ev18) hrn) (cwV 1 hts gX0_saysRain_X3_rainsOn rfl rfl rfl (by decide +kernel) ⟨Nat.le_of_ble_eq_true rfl, Nat.le_of_ble_eq_true rfl⟩) hK hP hL_hw hf_hw rfl rfl hl.1 rfl (Nat.le_of_ble_eq_true rfl) dX0_saysRain_19 ⟨Nat.zero_le _, Nat.zero_le _⟩ (fun r19 hr19 => ?_)
  have hr19 : r19 = rn ((d + 11) % 12) := hr19
  subst hr19
  refine lv_istore (lv' := [(5, .int (rn ((d + 11) % 12))), (4, .int (gl ((d + 11) % 12))), (3, .int (gl (d % 12))), (0, .ref h0), (1, .ref hw), (2, .int (nI d))]) hx hb dX0_saysRain_22 hl (by decide) rfl (fun ls hl => ?_)
  refine lv_aload_n hx hb dX0_saysRain_24 rfl (lv_at hl 3 rfl) ?_
  refine pg_get (C := RX0) (T := TX0) (N := 2) hx hb hts hi_X0 hown hK hP hL_h0 hf_h0 rfl 0 (by decide) (hts (.fieldLink RX0 9 "BarometerLeague$Sign" "kind" "I") (by decide +kernel)) (fun _ h9 => h9) rfl dX0_saysRain_25 ?_
  by_cases k28_0 : k = 0
  · have q : (k).toInt = 0 := by rw [k28_0]; rfl
    refine lv_tableIn (off := 36) (tgt := 64) hx hb dX0_saysRain_28 (by rw [q]; decide) (by rw [q]; decide) (by rw [q]; rfl) (by decide) ?_
    refine lv_iload hx hb dX0_saysRain_64 (lv_at hl 1 rfl) ?_
    refine lv_iload_n hx hb dX0_saysRain_66 rfl (lv_at hl 2 rfl) ?_
    refine lv_isub hx hb dX0_saysRain_67 ?_
    refine lv_topi (fun v67 ev67 => ?_)
    refine lv_aload_n hx hb dX0_saysRain_68 rfl (lv_at hl 3 rfl) ?_
    refine pg_get (C := RX0) (T := TX0) (N := 2) hx hb hts hi_X0 hown hK hP hL_h0 hf_h0 rfl 1 (by decide) (hts (.fieldLink RX0 15 "BarometerLeague$Sign" "number" "I") (by decide +kernel)) (fun _ h9 => h9) rfl dX0_saysRain_69 ?_
    refine lv_icmp_lt (tgt := 79) hx hb dX0_saysRain_72 (by decide) (fun c72 => ?_) (fun c72 => ?_)
    · skip
      refine lv_iconst (v := 0) hx hb dX0_saysRain_79 (by decide) ?_
      exact hend (0) _ _ (bf (say0 k28_0) (by rw [← ev67]; exact Int32.not_le.mpr c72)) rfl dX0_saysRain_80
    · skip
      refine lv_iconst (v := 1) hx hb dX0_saysRain_75 (by decide) ?_
      refine lv_goto (tgt := 80) hx hb dX0_saysRain_76 (by decide) ?_
      exact hend (1) _ _ (bt (say0 k28_0) (by rw [← ev67]; exact Int32.not_lt.mp c72)) rfl dX0_saysRain_80
  have q28_0 : (k).toInt ≠ 0 := ti_ne k28_0
  by_cases k28_1 : k = 1
  · have q : (k).toInt = 1 := by rw [k28_1]; rfl
    refine lv_tableIn (off := 53) (tgt := 81) hx hb dX0_saysRain_28 (by rw [q]; decide) (by rw [q]; decide) (by rw [q]; rfl) (by decide) ?_
    refine lv_iload_n hx hb dX0_saysRain_81 rfl (lv_at hl 2 rfl) ?_
    refine lv_aload_n hx hb dX0_saysRain_82 rfl (lv_at hl 3 rfl) ?_
    refine pg_get (C := RX0) (T := TX0) (N := 2) hx hb hts hi_X0 hown hK hP hL_h0 hf_h0 rfl 1 (by decide) (hts (.fieldLink RX0 15 "BarometerLeague$Sign" "number" "I") (by decide +kernel)) (fun _ h9 => h9) rfl dX0_saysRain_83 ?_
    refine lv_icmp_ge (tgt := 93) hx hb dX0_saysRain_86 (by decide) (fun c86 => ?_) (fun c86 => ?_)
    · skip
      refine lv_iconst (v := 0) hx hb dX0_saysRain_93 (by decide) ?_
      exact hend (0) _ _ (bf (say1 k28_1) (Int32.not_lt.mpr c86)) rfl dX0_saysRain_94
    · skip
      refine lv_iconst (v := 1) hx hb dX0_saysRain_89 (by decide) ?_
      refine lv_goto (tgt := 94) hx hb dX0_saysRain_90 (by decide) ?_
      exact hend (1) _ _ (bt (say1 k28_1) (Int32.not_le.mp c86)) rfl dX0_saysRain_94
  have q28_1 : (k).toInt ≠ 1 := ti_ne k28_1
  by_cases k28_2 : k = 2
  · have q : (k).toInt = 2 := by rw [k28_2]; rfl
    refine lv_tableIn (off := 67) (tgt := 95) hx hb dX0_saysRain_28 (by rw [q]; decide) (by rw [q]; decide) (by rw [q]; rfl) (by decide) ?_
    refine lv_iload hx hb dX0_saysRain_95 (lv_at hl 0 rfl) ?_
    exact hend (rn ((d + 11) % 12)) _ _ (by obtain ⟨b, hb⟩ := hrn ((d + 11) % 12) (by omega); rw [say2 k28_2, hb]; exact (b2i_d b).symm) (by first | rfl | (obtain ⟨b, hb⟩ := hrn ((d + 11) % 12) (by omega); rw [hb]; exact b2i_n b)) dX0_saysRain_97
  have q28_2 : (k).toInt ≠ 2 := ti_ne k28_2
  by_cases k28_3 : k = 3
  · have q : (k).toInt = 3 := by rw [k28_3]; rfl
    refine lv_tableIn (off := 70) (tgt := 98) hx hb dX0_saysRain_28 (by rw [q]; decide) (by rw [q]; decide) (by rw [q]; rfl) (by decide) ?_
    refine lv_iload_n hx hb dX0_saysRain_98 rfl (lv_at hl 5 rfl) ?_
    refine lv_bipush (v := 7) hx hb dX0_saysRain_99 (by decide) ?_
    refine lv_irem hx hb dX0_saysRain_101 (by decide) ?_
    refine lv_topi (fun v101 ev101 => ?_)
    refine lv_aload_n hx hb dX0_saysRain_102 rfl (lv_at hl 3 rfl) ?_
    refine pg_get (C := RX0) (T := TX0) (N := 2) hx hb hts hi_X0 hown hK hP hL_h0 hf_h0 rfl 1 (by decide) (hts (.fieldLink RX0 15 "BarometerLeague$Sign" "number" "I") (by decide +kernel)) (fun _ h9 => h9) rfl dX0_saysRain_103 ?_
    refine lv_bipush (v := 7) hx hb dX0_saysRain_106 (by decide) ?_
    refine lv_irem hx hb dX0_saysRain_108 (by decide) ?_
    refine lv_topi (fun v108 ev108 => ?_)
    refine lv_icmp_ne (tgt := 116) hx hb dX0_saysRain_109 (by decide) (fun c109 => ?_) (fun c109 => ?_)
    · skip
      refine lv_iconst (v := 0) hx hb dX0_saysRain_116 (by decide) ?_
      exact hend (0) _ _ (bf (say3 k28_3) (fun h => c109 (by rw [ev101, ev108]; exact h))) rfl dX0_saysRain_117
    · skip
      refine lv_iconst (v := 1) hx hb dX0_saysRain_112 (by decide) ?_
      refine lv_goto (tgt := 117) hx hb dX0_saysRain_113 (by decide) ?_
      exact hend (1) _ _ (bt (say3 k28_3) (by rw [← ev101, ← ev108]; exact c109)) rfl dX0_saysRain_117
  have q28_3 : (k).toInt ≠ 3 := ti_ne k28_3
  by_cases k28_4 : k = 4
  · have q : (k).toInt = 4 := by rw [k28_4]; rfl
    refine lv_tableIn (off := 90) (tgt := 118) hx hb dX0_saysRain_28 (by rw [q]; decide) (by rw [q]; decide) (by rw [q]; rfl) (by decide) ?_
    refine lv_iload hx hb dX0_saysRain_118 (lv_at hl 0 rfl) ?_
    refine lv_if_ne (tgt := 133) hx hb dX0_saysRain_120 (by decide) (fun c120 => ?_) (fun c120 => ?_)
    · skip
      refine lv_iconst (v := 0) hx hb dX0_saysRain_133 (by decide) ?_
      exact hend (0) _ _ (bf (say4 k28_4) (fun h => c120 h.1)) rfl dX0_saysRain_134
    · skip
      refine lv_iload_n hx hb dX0_saysRain_123 rfl (lv_at hl 2 rfl) ?_
      refine lv_iload hx hb dX0_saysRain_124 (lv_at hl 1 rfl) ?_
      refine lv_icmp_ge (tgt := 133) hx hb dX0_saysRain_126 (by decide) (fun c126 => ?_) (fun c126 => ?_)
      · skip
        refine lv_iconst (v := 0) hx hb dX0_saysRain_133 (by decide) ?_
        exact hend (0) _ _ (bf (say4 k28_4) (fun h => Int32.not_lt.mpr c126 h.2)) rfl dX0_saysRain_134
      · skip
        refine lv_iconst (v := 1) hx hb dX0_saysRain_129 (by decide) ?_
        refine lv_goto (tgt := 134) hx hb dX0_saysRain_130 (by decide) ?_
        exact hend (1) _ _ (bt (say4 k28_4) ⟨c120, Int32.not_le.mp c126⟩) rfl dX0_saysRain_134
  have q28_4 : (k).toInt ≠ 4 := ti_ne k28_4
  refine lv_tableOut (tgt := 135) hx hb dX0_saysRain_28 (by omega) (by decide) ?_
  refine lv_iconst (v := 1) hx hb dX0_saysRain_135 (by decide) ?_
  exact hend (1) _ _ (by rw [say5 k28_0 k28_1 k28_2 k28_3 k28_4]; rfl) rfl dX0_saysRain_136

set_option maxHeartbeats 4000000 in
set_option maxRecDepth 100000 in
theorem m_X0_daysRight (l : Launch) (g : GG) (L : List Nat) (f : Nat → va_E) (h0 hw ga ra : Nat) (k n : Int32) (gl rn : Nat → Int32) (hL_h0 : h0 ∈ L) (hf_h0 : f h0 = eO 1 [.int k, .int n]) (hL_hw : hw ∈ L) (hf_hw : f hw = eO 4 [.ref ga, .ref ra]) (hL_ga : ga ∈ L) (hf_ga : f ga = eI g 12 gl) (hL_ra : ra ∈ L) (hf_ra : f ra = eZ g 12 rn) (hrn : ∀ k, k < 12 → ∃ b, rn k = b2i b) : RO l g yX0_daysRight wsX0_daysRight 3 68 L f [.ref h0, .ref hw] (fun r => r = rightN k n gl rn 12) := by
  refine RO.start (cc := cX0_daysRight) (maxL := 4) (ret := .int) (by decide +kernel) rfl (by simp [lg_sl, Value.category]) ?_
  intro p e s m args below meth c Q ls hx hb hml hts hown hP hK hl hend
  have hl : lv_has ls 4 [(0, .ref h0), (1, .ref hw)] := hl
  have n_h0_hw : h0 ≠ hw := ne_e hf_h0 hf_hw (by simp)
  have n_h0_ga : h0 ≠ ga := ne_e hf_h0 hf_ga (by simp)
  have n_h0_ra : h0 ≠ ra := ne_e hf_h0 hf_ra (by simp)
  have n_hw_ga : hw ≠ ga := ne_e hf_hw hf_ga (by simp)
  have n_hw_ra : hw ≠ ra := ne_e hf_hw hf_ra (by simp)
  refine lv_iconst (v := 0) hx hb dX0_daysRight_0 (by decide) ?_
  refine lv_istore_n (lv' := [(2, .int 0), (0, .ref h0), (1, .ref hw)]) hx hb dX0_daysRight_1 rfl hl (by decide) rfl (fun ls hl => ?_)
  refine lv_iconst (v := 0) hx hb dX0_daysRight_2 (by decide) ?_
  refine lv_istore_n (lv' := [(3, .int 0), (2, .int 0), (0, .ref h0), (1, .ref hw)]) hx hb dX0_daysRight_3 rfl hl (by decide) rfl (fun ls hl => ?_)
  have K4 : ∀ (n4 : Nat) (i : Nat) (acc : Int32), 12 - i < n4 → i ≤ 12 → acc = rightN k n gl rn i → ∀ (ls : Array Slot), lv_has ls 4 [(3, .int (nI i)), (2, .int acc), (1, .ref hw), (0, .ref h0)] → W p l e ({ frames := 3, cells := 0, slots := 0, locals := 68 } : Room) s m args below meth c s.heap [] 0 0 Q (F0 m 4 ls []) := by
    intro n4
    induction n4 with
    | zero => intros; omega
    | succ n4 ih4 =>
      intro i acc hm4 hi ha ls hl
      refine lv_iload_n hx hb dX0_daysRight_4 rfl (lv_at hl 0 rfl) ?_
      refine lv_bipush (v := 12) hx hb dX0_daysRight_5 (by decide) ?_
      refine lv_icmp_ge (tgt := 33) hx hb dX0_daysRight_7 (by decide) (fun c7 => ?_) (fun c7 => ?_)
      · skip
        have c7 : 12 ≤ i := (nI_leI (a := 12) (b := i) (by omega) (by omega)).mp (show nI 12 ≤ nI i from c7)
        refine lv_iload_n hx hb dX0_daysRight_33 rfl (lv_at hl 1 rfl) ?_
        exact hend (acc) _ _ (by rw [ha, show i = 12 from (by omega)]) rfl dX0_daysRight_34
      · skip
        have c7 : ¬ 12 ≤ i := fun h => c7 ((nI_leI (a := 12) (b := i) (by omega) (by omega)).mpr h)
        refine lv_aload_n hx hb dX0_daysRight_10 rfl (lv_at hl 3 rfl) ?_
        refine lv_aload_n hx hb dX0_daysRight_11 rfl (lv_at hl 2 rfl) ?_
        refine lv_iload_n hx hb dX0_daysRight_12 rfl (lv_at hl 0 rfl) ?_
        refine ro_V (As := [.ref hw, .int (nI i)]) (rest := []) ⟨hx, hb, hml, hown, hts⟩ (m_X0_saysRain l g L f _ _ _ _ _ _ _ _ i hL_h0 hf_h0 hL_hw hf_hw hL_ga hf_ga hL_ra hf_ra hrn (by omega)) (cwV 2 hts gX0_daysRight_X0_saysRain rfl rfl rfl (by decide +kernel) ⟨Nat.le_of_ble_eq_true rfl, Nat.le_of_ble_eq_true rfl⟩) hK hP hL_h0 hf_h0 rfl rfl hl.1 rfl (Nat.le_of_ble_eq_true rfl) dX0_daysRight_13 ⟨Nat.zero_le _, Nat.zero_le _⟩ (fun r13 hr13 => ?_)
        have hr13 : r13 = b2i (sayB k n gl rn i) := hr13
        subst hr13
        refine lv_aload_n hx hb dX0_daysRight_16 rfl (lv_at hl 2 rfl) ?_
        refine lv_iload_n hx hb dX0_daysRight_17 rfl (lv_at hl 0 rfl) ?_
        refine ro_V (As := [.int (nI i)]) (rest := [.int (b2i (sayB k n gl rn i))]) ⟨hx, hb, hml, hown, hts⟩ (m_X3_rainsOn l g L f _ _ _ _ _ _ i hL_hw hf_hw hL_ga hf_ga hL_ra hf_ra (dIx_t (by omega)) hrn) (cwV 1 hts gX0_daysRight_X3_rainsOn rfl rfl rfl (by decide +kernel) ⟨Nat.le_of_ble_eq_true rfl, Nat.le_of_ble_eq_true rfl⟩) hK hP hL_hw hf_hw rfl rfl hl.1 rfl (Nat.le_of_ble_eq_true rfl) dX0_daysRight_18 ⟨Nat.zero_le _, Nat.zero_le _⟩ (fun r18 hr18 => ?_)
        have hr18 : r18 = rn i := hr18
        subst hr18
        refine lv_icmp_ne (tgt := 27) hx hb dX0_daysRight_21 (by decide) (fun c21 => ?_) (fun c21 => ?_)
        · skip
          refine lv_iinc (v := nI (i + 1)) (lv' := [(3, .int (nI (i + 1))), (2, .int acc), (1, .ref hw), (0, .ref h0)]) hx hb dX0_daysRight_27 hl (k := 0) rfl (nI_1 _) (by decide) rfl (fun ls hl => ?_)
          refine lv_goto (tgt := 4) hx hb dX0_daysRight_30 (by decide) ?_
          exact ih4 (i + 1) acc (by omega) (by omega) (sumN_z ha (drF (hrn i (by omega)) c21)) ls (lv_sub hl [0, 1, 2, 3] rfl)
        · skip
          obtain ⟨v24, ev24⟩ : ∃ y : Int32, y = acc + 1 := ⟨_, rfl⟩
          refine lv_iinc (v := v24) (lv' := [(2, .int v24), (3, .int (nI i)), (1, .ref hw), (0, .ref h0)]) hx hb dX0_daysRight_24 hl (k := 1) rfl (by rw [ev24]; rfl) (by decide) rfl (fun ls hl => ?_)
          refine lv_iinc (v := nI (i + 1)) (lv' := [(3, .int (nI (i + 1))), (2, .int v24), (1, .ref hw), (0, .ref h0)]) hx hb dX0_daysRight_27 hl (k := 1) rfl (nI_1 _) (by decide) rfl (fun ls hl => ?_)
          refine lv_goto (tgt := 4) hx hb dX0_daysRight_30 (by decide) ?_
          exact ih4 (i + 1) v24 (by omega) (by omega) (sumN_s ha (ev24.trans (congrArg (acc + ·) (drT (hrn i (by omega)) c21).symm))) ls (lv_sub hl [0, 1, 2, 3] rfl)
  exact K4 _ 0 0 (Nat.lt_succ_self _) (Nat.zero_le _) (rfl) ls (lv_sub hl [0, 1, 3, 2] rfl)
