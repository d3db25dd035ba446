/-! ===== the league by hand: what it reads ===== -/
theorem sub7d : ∀ d, d < 61 → ∀ m, m < 61 → ((nI d - nI m) - (nI d - nI m) / 7 * 7 = 0 ↔ d % 7 = m % 7) := by decide +kernel
theorem sub7i {x : Int32} {d : Nat} (hm : ∃ m : Nat, m ≤ 60 ∧ x = nI m) (hd : d < 2 ^ 30) {z a b : Int32} (hz : z = x) (ea : a = nI d - z) (eb : b = a - a / 7 * 7) : b = 0 ↔ nI d - nI d / 7 * 7 = x - x / 7 * 7 := by
  obtain ⟨m, hm, rfl⟩ := hm
  subst hz
  subst ea
  subst eb
  rw [show nI d - nI d / 7 * 7 = nI (d % 7) from pk_rem (d := 7) (by omega) (by decide) (by decide), show nI m - nI m / 7 * 7 = nI (m % 7) from pk_rem (d := 7) (by omega) (by decide) (by decide), nI_eq (by omega) (by omega)]
  by_cases h : m ≤ d
  · rw [pk_sub h, show nI (d - m) - nI (d - m) / 7 * 7 = nI ((d - m) % 7) from pk_rem (d := 7) (by omega) (by decide) (by decide), show (0 : Int32) = nI 0 from rfl, nI_eq (by omega) (by omega)]
    omega
  · exact sub7d d (by omega) m (by omega)
theorem sub7 {x : Int32} {d : Nat} (hm : ∃ m : Nat, m ≤ 60 ∧ x = nI m) (hd : d < 2 ^ 30) {z a b : Int32} (hz : z = x) (ea : a = nI d - z) (eb : b = a - a / 7 * 7) (h : nI d - nI d / 7 * 7 = x - x / 7 * 7) : b = 0 := (sub7i hm hd hz ea eb).mpr h
theorem sub7r {x : Int32} {d : Nat} (hm : ∃ m : Nat, m ≤ 60 ∧ x = nI m) (hd : d < 2 ^ 30) {z a b : Int32} (hz : z = x) (ea : a = nI d - z) (eb : b = a - a / 7 * 7) (h : b = 0) : nI d - nI d / 7 * 7 = x - x / 7 * 7 := (sub7i hm hd hz ea eb).mp h
theorem leanS {sa w : Nat → Int32} {i : Nat} {acc t z x y : Int32} (h : acc = leadN sa w i) (ht : t = sa i) (hz : z = w i) (e1 : x = t * z) (e2 : y = acc + x) : y = leadN sa w (i + 1) := by
  subst e2
  subst e1
  subst ht
  subst hz
  exact sumN_s h rfl
theorem sum1_b {w : Nat → Int32} {n : Nat} {x y z : Int32} (h : x = 1 + sumN w n) (hz : z = w n) (e : y = x + z) : y = 1 + sumN w (n + 1) := by
  subst e
  subst hz
  exact sum1_s h rfl
theorem sumN_e {w : Nat → Int32} {n : Nat} {x y z : Int32} (h : x = sumN w n) (hz : z = w n) (e : y = x + z) : y = sumN w (n + 1) := by
  subst e
  subst hz
  exact sumN_s h rfl
theorem i_lt_irr {a : Int32} : ¬ a < a := Int32.lt_irrefl
theorem ahx1 {p1 c1 n1 p2 c2 n2 : Int32} (h : p2 < p1) : aheadB p1 c1 n1 p2 c2 n2 = true := by
  rw [ah1 (fun e => i_lt_irr (e ▸ h))]; exact decide_eq_true h
theorem ahx2 {p1 c1 n1 p2 c2 n2 : Int32} (e : p1 = p2) (h : c2 < c1) : aheadB p1 c1 n1 p2 c2 n2 = true := by
  rw [ah2 e (fun e => i_lt_irr (e ▸ h))]; exact decide_eq_true h
theorem ahx3 {p1 c1 n1 p2 c2 n2 : Int32} (e : p1 = p2) (e2 : c1 = c2) (h : n1 < n2) : aheadB p1 c1 n1 p2 c2 n2 = true := by
  rw [ah3 e e2]; exact decide_eq_true h
theorem ahy1 {p1 c1 n1 p2 c2 n2 : Int32} (h : ¬ p1 = p2) (k : ¬ p2 < p1) : aheadB p1 c1 n1 p2 c2 n2 = false := by
  rw [ah1 h]; exact decide_eq_false k
theorem ahy2 {p1 c1 n1 p2 c2 n2 : Int32} (e : p1 = p2) (h : ¬ c1 = c2) (k : ¬ c2 < c1) : aheadB p1 c1 n1 p2 c2 n2 = false := by
  rw [ah2 e h]; exact decide_eq_false k
theorem ahy3 {p1 c1 n1 p2 c2 n2 : Int32} (e : p1 = p2) (e2 : c1 = c2) (k : ¬ n1 < n2) : aheadB p1 c1 n1 p2 c2 n2 = false := by
  rw [ah3 e e2]; exact decide_eq_false k
theorem subpos {x y z : Int32} (hx : ∃ m : Nat, m ≤ 60 ∧ x = nI m) (hy : ∃ m : Nat, m ≤ 60 ∧ y = nI m) (e : z = x - y) (h : z ≤ 0) : x ≤ y := by
  obtain ⟨a, ha, rfl⟩ := hx
  obtain ⟨b, hb, rfl⟩ := hy
  subst e
  refine (nI_leI (by omega) (by omega)).mpr ?_
  have h1 := Int32.le_iff_toInt_le.mp h
  rw [pk_sub_toInt (by omega) (by omega), show (0 : Int32).toInt = 0 from by decide] at h1
  omega
theorem subpos2 {x y z : Int32} (hx : ∃ m : Nat, m ≤ 60 ∧ x = nI m) (hy : ∃ m : Nat, m ≤ 60 ∧ y = nI m) (e : z = x - y) (h : ¬ z ≤ 0) : y < x := by
  obtain ⟨a, ha, rfl⟩ := hx
  obtain ⟨b, hb, rfl⟩ := hy
  subst e
  refine (nI_ltI (by omega) (by omega)).mpr ?_
  have h1 : ¬ (nI a - nI b).toInt ≤ (0 : Int32).toInt := fun q => h (Int32.le_iff_toInt_le.mpr q)
  rw [pk_sub_toInt (by omega) (by omega), show (0 : Int32).toInt = 0 from by decide] at h1
  omega
set_option maxHeartbeats 4000000 in
set_option maxRecDepth 100000 in
theorem m_X5_says (l : Launch) (g : GG) (L : List Nat) (f : Nat → va_E) (sm sg sr ss sv sw d0 n : Nat) (fs : Nat → Nat) (gl rn kd nu : Nat → Int32) (j d : Nat) (hL_sm : sm ∈ L) (hf_sm : f sm = eO 6 [.int (nI d0), .ref sg, .ref sr, .ref ss, .ref sv, .ref sw]) (hL_sg : sg ∈ L) (hf_sg : f sg = eI g 12 gl) (hL_sr : sr ∈ L) (hf_sr : f sr = eZ g 12 rn) (hL_ss : ss ∈ L) (hf_ss : f ss = eR g n (vilR fs n)) (hn : n ≤ 8) (hrn : ∀ k, k < 12 → ∃ b, rn k = b2i b) (hnu : ∀ j, j < n → ∃ m : Nat, m ≤ 60 ∧ nu j = nI m) (hgl : ∀ k, k < 12 → ∃ m : Nat, m ≤ 60 ∧ gl k = nI m) (hSR : RowsB g L f 2 n fs (fun j => pr2 (kd j) (nu j))) (hj : j < n) (hd : d < 2 ^ 30) : RO l g yX5_says wsX5_says 0 0 L f [.ref sm, .int (nI j), .int (nI d)] (fun r => r = b2i (sayB (kd j) (nu j) gl rn d)) := by
  refine RO.start (cc := cX5_says) (maxL := 7) (ret := .boolean) (by decide +kernel) rfl (by simp [lg_sl, Value.category]) ?_
  intro p e s m args below meth c Q ls hx hb hml hts hown hP hK hl hend
  have hl : lv_has ls 7 [(0, .ref sm), (1, .int (nI j)), (2, .int (nI d))] := hl
  have hi_X5 : ∀ w ∈ u_ws RX5 TX5 6, w ∈ wsX5_says := by decide +kernel
  have n_sm_sg : sm ≠ sg := ne_e hf_sm hf_sg (by simp)
  have n_sm_sr : sm ≠ sr := ne_e hf_sm hf_sr (by simp)
  have n_sm_ss : sm ≠ ss := ne_e hf_sm hf_ss (by simp)
  have n_sg_ss : sg ≠ ss := ne_e hf_sg hf_ss (by simp)
  have n_sr_ss : sr ≠ ss := ne_e hf_sr hf_ss (by simp)
  refine lv_aload_n hx hb dX5_says_0 rfl (lv_at hl 0 rfl) ?_
  refine pg_get (C := RX5) (T := TX5) (N := 6) hx hb hts hi_X5 hown hK hP hL_sm hf_sm rfl 3 (by decide) (hts (.fieldLink RX5 18 "BarometerLeagueLaw$Sim" "signs" "[[I") (by decide +kernel)) (fun _ h9 => h9) rfl dX5_says_1 ?_
  refine lv_iload_n hx hb dX5_says_4 rfl (lv_at hl 1 rfl) ?_
  refine pn_rald (j := j) hx hb hK hP hL_ss hf_ss rfl (by omega) (Nat.lt_of_lt_of_le (m := 100) (by omega) (by omega)) (vilR_at (by omega)) dX5_says_5 ?_
  obtain ⟨hL_fs_j, z5, hf_fs_j, hz5⟩ := hSR j (by omega)
  have hz5n : z5 1 = nu j := hz5 1 (by decide)
  refine lv_astore_n (lv' := [(3, .ref (fs j)), (0, .ref sm), (1, .int (nI j)), (2, .int (nI d))]) hx hb dX5_says_6 rfl hl (by decide) rfl (fun ls hl => ?_)
  refine lv_aload_n hx hb dX5_says_7 rfl (lv_at hl 1 rfl) ?_
  refine pg_get (C := RX5) (T := TX5) (N := 6) hx hb hts hi_X5 hown hK hP hL_sm hf_sm rfl 1 (by decide) (hts (.fieldLink RX5 7 "BarometerLeagueLaw$Sim" "glass" "[I") (by decide +kernel)) (fun _ h9 => h9) rfl dX5_says_8 ?_
  refine lv_iload_n hx hb dX5_says_11 rfl (lv_at hl 3 rfl) ?_
  refine lv_bipush (v := 12) hx hb dX5_says_12 (by decide) ?_
  refine lv_irem hx hb dX5_says_14 (by decide) ?_
  refine lv_topi (fun v14 ev14 => ?_)
  refine pn_iald (j := d % 12) hx hb hK hP hL_sg hf_sg (ev14.trans (pk_rem (a := d) (d := 12) (by omega) (by decide) (by decide))) (by omega) (Nat.lt_of_lt_of_le (m := 100) (by omega) (by omega)) dX5_says_15 ?_
  refine lv_istore (lv' := [(4, .int (gl (d % 12))), (3, .ref (fs j)), (0, .ref sm), (1, .int (nI j)), (2, .int (nI d))]) hx hb dX5_says_16 hl (by decide) rfl (fun ls hl => ?_)
  refine lv_aload_n hx hb dX5_says_18 rfl (lv_at hl 2 rfl) ?_
  refine pg_get (C := RX5) (T := TX5) (N := 6) hx hb hts hi_X5 hown hK hP hL_sm hf_sm rfl 1 (by decide) (hts (.fieldLink RX5 7 "BarometerLeagueLaw$Sim" "glass" "[I") (by decide +kernel)) (fun _ h9 => h9) rfl dX5_says_19 ?_
  refine lv_iload_n hx hb dX5_says_22 rfl (lv_at hl 4 rfl) ?_
  refine lv_bipush (v := 11) hx hb dX5_says_23 (by decide) ?_
  refine lv_iadd hx hb dX5_says_25 ?_
  refine lv_topi (fun v25 ev25 => ?_)
  refine lv_bipush (v := 12) hx hb dX5_says_26 (by decide) ?_
  refine lv_irem hx hb dX5_says_28 (by decide) ?_
  refine lv_topi (fun v28 ev28 => ?_)
  refine pn_iald (j := (d + 11) % 12) hx hb hK hP hL_sg hf_sg (ev28.trans ((congrArg (fun z : Int32 => z - z / 12 * 12) (ev25.trans (nat_add rfl rfl))).trans (pk_rem (a := d + 11) (d := 12) (by omega) (by decide) (by decide)))) (by omega) (Nat.lt_of_lt_of_le (m := 100) (by omega) (by omega)) dX5_says_29 ?_
  refine lv_iload hx hb dX5_says_30 (lv_at hl 0 rfl) ?_
  refine lv_isub hx hb dX5_says_32 ?_
  refine lv_topi (fun v32 ev32 => ?_)
  refine lv_istore (lv' := [(5, .int v32), (4, .int (gl (d % 12))), (3, .ref (fs j)), (0, .ref sm), (1, .int (nI j)), (2, .int (nI d))]) hx hb dX5_says_33 hl (by decide) rfl (fun ls hl => ?_)
  refine lv_aload_n hx hb dX5_says_35 rfl (lv_at hl 3 rfl) ?_
  refine pg_get (C := RX5) (T := TX5) (N := 6) hx hb hts hi_X5 hown hK hP hL_sm hf_sm rfl 2 (by decide) (hts (.fieldLink RX5 13 "BarometerLeagueLaw$Sim" "rain" "[Z") (by decide +kernel)) (fun _ h9 => h9) rfl dX5_says_36 ?_
  refine lv_iload_n hx hb dX5_says_39 rfl (lv_at hl 5 rfl) ?_
  refine lv_bipush (v := 11) hx hb dX5_says_40 (by decide) ?_
  refine lv_iadd hx hb dX5_says_42 ?_
  refine lv_topi (fun v42 ev42 => ?_)
  refine lv_bipush (v := 12) hx hb dX5_says_43 (by decide) ?_
  refine lv_irem hx hb dX5_says_45 (by decide) ?_
  refine lv_topi (fun v45 ev45 => ?_)
  refine pn_zald (j := (d + 11) % 12) hx hb hK hP hL_sr hf_sr (ev45.trans ((congrArg (fun z : Int32 => z - z / 12 * 12) (ev42.trans (nat_add rfl rfl))).trans (pk_rem (a := d + 11) (d := 12) (by omega) (by decide) (by decide)))) (by omega) (Nat.lt_of_lt_of_le (m := 100) (by omega) (by omega)) dX5_says_46 ?_
  refine lv_istore (lv' := [(6, .int (rn ((d + 11) % 12))), (5, .int v32), (4, .int (gl (d % 12))), (3, .ref (fs j)), (0, .ref sm), (1, .int (nI j)), (2, .int (nI d))]) hx hb dX5_says_47 hl (by decide) rfl (fun ls hl => ?_)
  refine lv_aload_n hx hb dX5_says_49 rfl (lv_at hl 3 rfl) ?_
  refine lv_iconst (v := 0) hx hb dX5_says_50 (by decide) ?_
  refine pn_iald (j := 0) hx hb hK hP hL_fs_j hf_fs_j rfl (by omega) (Nat.lt_of_lt_of_le (m := 100) (by omega) (by omega)) dX5_says_51 ?_
  rw [show z5 0 = kd j from hz5 0 (by decide)]
  by_cases k52_0 : kd j = 0
  · have q : (kd j).toInt = 0 := by rw [k52_0]; rfl
    refine lv_tableIn (off := 36) (tgt := 88) hx hb dX5_says_52 (by rw [q]; decide) (by rw [q]; decide) (by rw [q]; rfl) (by decide) ?_
    refine lv_iload hx hb dX5_says_88 (lv_at hl 1 rfl) ?_
    refine lv_aload_n hx hb dX5_says_90 rfl (lv_at hl 3 rfl) ?_
    refine lv_iconst (v := 1) hx hb dX5_says_91 (by decide) ?_
    refine pn_iald (j := 1) hx hb hK hP hL_fs_j hf_fs_j rfl (by omega) (Nat.lt_of_lt_of_le (m := 100) (by omega) (by omega)) dX5_says_92 ?_
    refine lv_icmp_lt (tgt := 100) hx hb dX5_says_93 (by decide) (fun c93 => ?_) (fun c93 => ?_)
    · skip
      refine lv_iconst (v := 0) hx hb dX5_says_100 (by decide) ?_
      exact hend (0) _ _ (bf (say0 k52_0) (fun h => by rw [(hz5 1 (by decide) : z5 1 = nu j), ev32] at c93; exact Int32.not_lt.mpr h c93)) rfl dX5_says_101
    · skip
      refine lv_iconst (v := 1) hx hb dX5_says_96 (by decide) ?_
      refine lv_goto (tgt := 101) hx hb dX5_says_97 (by decide) ?_
      exact hend (1) _ _ (bt (say0 k52_0) (by rw [(hz5 1 (by decide) : z5 1 = nu j), ev32] at c93; exact Int32.not_lt.mp c93)) rfl dX5_says_101
  have q52_0 : (kd j).toInt ≠ 0 := ti_ne k52_0
  by_cases k52_1 : kd j = 1
  · have q : (kd j).toInt = 1 := by rw [k52_1]; rfl
    refine lv_tableIn (off := 50) (tgt := 102) hx hb dX5_says_52 (by rw [q]; decide) (by rw [q]; decide) (by rw [q]; rfl) (by decide) ?_
    refine lv_iload hx hb dX5_says_102 (lv_at hl 2 rfl) ?_
    refine lv_aload_n hx hb dX5_says_104 rfl (lv_at hl 3 rfl) ?_
    refine lv_iconst (v := 1) hx hb dX5_says_105 (by decide) ?_
    refine pn_iald (j := 1) hx hb hK hP hL_fs_j hf_fs_j rfl (by omega) (Nat.lt_of_lt_of_le (m := 100) (by omega) (by omega)) dX5_says_106 ?_
    refine lv_icmp_ge (tgt := 114) hx hb dX5_says_107 (by decide) (fun c107 => ?_) (fun c107 => ?_)
    · skip
      refine lv_iconst (v := 0) hx hb dX5_says_114 (by decide) ?_
      exact hend (0) _ _ (bf (say1 k52_1) (by rw [(hz5 1 (by decide) : z5 1 = nu j)] at c107; exact Int32.not_lt.mpr c107)) rfl dX5_says_115
    · skip
      refine lv_iconst (v := 1) hx hb dX5_says_110 (by decide) ?_
      refine lv_goto (tgt := 115) hx hb dX5_says_111 (by decide) ?_
      exact hend (1) _ _ (bt (say1 k52_1) (by rw [(hz5 1 (by decide) : z5 1 = nu j)] at c107; exact Int32.not_le.mp c107)) rfl dX5_says_115
  have q52_1 : (kd j).toInt ≠ 1 := ti_ne k52_1
  by_cases k52_2 : kd j = 2
  · have q : (kd j).toInt = 2 := by rw [k52_2]; rfl
    refine lv_tableIn (off := 64) (tgt := 116) hx hb dX5_says_52 (by rw [q]; decide) (by rw [q]; decide) (by rw [q]; rfl) (by decide) ?_
    refine lv_iload hx hb dX5_says_116 (lv_at hl 0 rfl) ?_
    exact hend (rn ((d + 11) % 12)) _ _ (by obtain ⟨b, hb⟩ := hrn ((d + 11) % 12) (by omega); rw [say2 k52_2, hb]; exact (b2i_d b).symm) (by first | rfl | (obtain ⟨b, hb⟩ := hrn ((d + 11) % 12) (by omega); rw [hb]; exact b2i_n b)) dX5_says_118
  have q52_2 : (kd j).toInt ≠ 2 := ti_ne k52_2
  by_cases k52_3 : kd j = 3
  · have q : (kd j).toInt = 3 := by rw [k52_3]; rfl
    refine lv_tableIn (off := 67) (tgt := 119) hx hb dX5_says_52 (by rw [q]; decide) (by rw [q]; decide) (by rw [q]; rfl) (by decide) ?_
    refine lv_iload_n hx hb dX5_says_119 rfl (lv_at hl 6 rfl) ?_
    refine lv_aload_n hx hb dX5_says_120 rfl (lv_at hl 3 rfl) ?_
    refine lv_iconst (v := 1) hx hb dX5_says_121 (by decide) ?_
    refine pn_iald (j := 1) hx hb hK hP hL_fs_j hf_fs_j rfl (by omega) (Nat.lt_of_lt_of_le (m := 100) (by omega) (by omega)) dX5_says_122 ?_
    refine lv_isub hx hb dX5_says_123 ?_
    refine lv_topi (fun v123 ev123 => ?_)
    refine lv_bipush (v := 7) hx hb dX5_says_124 (by decide) ?_
    refine lv_irem hx hb dX5_says_126 (by decide) ?_
    refine lv_topi (fun v126 ev126 => ?_)
    refine lv_if_ne (tgt := 134) hx hb dX5_says_127 (by decide) (fun c127 => ?_) (fun c127 => ?_)
    · skip
      refine lv_iconst (v := 0) hx hb dX5_says_134 (by decide) ?_
      exact hend (0) _ _ (bf (say3 k52_3) (fun h => c127 (sub7 (hnu j hj) hd hz5n ev123 ev126 h))) rfl dX5_says_135
    · skip
      refine lv_iconst (v := 1) hx hb dX5_says_130 (by decide) ?_
      refine lv_goto (tgt := 135) hx hb dX5_says_131 (by decide) ?_
      exact hend (1) _ _ (bt (say3 k52_3) (sub7r (hnu j hj) hd hz5n ev123 ev126 c127)) rfl dX5_says_135
  have q52_3 : (kd j).toInt ≠ 3 := ti_ne k52_3
  by_cases k52_4 : kd j = 4
  · have q : (kd j).toInt = 4 := by rw [k52_4]; rfl
    refine lv_tableIn (off := 84) (tgt := 136) hx hb dX5_says_52 (by rw [q]; decide) (by rw [q]; decide) (by rw [q]; rfl) (by decide) ?_
    refine lv_iload hx hb dX5_says_136 (lv_at hl 0 rfl) ?_
    refine lv_if_ne (tgt := 150) hx hb dX5_says_138 (by decide) (fun c138 => ?_) (fun c138 => ?_)
    · skip
      refine lv_iconst (v := 0) hx hb dX5_says_150 (by decide) ?_
      exact hend (0) _ _ (bf (say4 k52_4) (fun h => c138 h.1)) rfl dX5_says_151
    · skip
      refine lv_iload hx hb dX5_says_141 (lv_at hl 1 rfl) ?_
      refine lv_if_le (tgt := 150) hx hb dX5_says_143 (by decide) (fun c143 => ?_) (fun c143 => ?_)
      · skip
        refine lv_iconst (v := 0) hx hb dX5_says_150 (by decide) ?_
        exact hend (0) _ _ (bf (say4 k52_4) (fun h => Int32.not_lt.mpr (subpos (hgl ((d + 11) % 12) (by omega)) (hgl (d % 12) (by omega)) ev32 c143) h.2)) rfl dX5_says_151
      · skip
        refine lv_iconst (v := 1) hx hb dX5_says_146 (by decide) ?_
        refine lv_goto (tgt := 151) hx hb dX5_says_147 (by decide) ?_
        exact hend (1) _ _ (bt (say4 k52_4) ⟨c138, subpos2 (hgl ((d + 11) % 12) (by omega)) (hgl (d % 12) (by omega)) ev32 c143⟩) rfl dX5_says_151
  have q52_4 : (kd j).toInt ≠ 4 := ti_ne k52_4
  refine lv_tableOut (tgt := 152) hx hb dX5_says_52 (by omega) (by decide) ?_
  refine lv_iconst (v := 1) hx hb dX5_says_152 (by decide) ?_
  exact hend (1) _ _ (by rw [say5 k52_0 k52_1 k52_2 k52_3 k52_4]; rfl) rfl dX5_says_153

set_option maxHeartbeats 4000000 in
set_option maxRecDepth 100000 in
theorem m_X5_lean (l : Launch) (g : GG) (L : List Nat) (f : Nat → va_E) (sm sg sr ss sv sw d0 n nv : Nat) (fs fw : Nat → Nat) (gl rn kd nu : Nat → Int32) (vs : Nat → VV) (v : Nat) (hL_sm : sm ∈ L) (hf_sm : f sm = eO 6 [.int (nI d0), .ref sg, .ref sr, .ref ss, .ref sv, .ref sw]) (hL_sg : sg ∈ L) (hf_sg : f sg = eI g 12 gl) (hL_sr : sr ∈ L) (hf_sr : f sr = eZ g 12 rn) (hL_ss : ss ∈ L) (hf_ss : f ss = eR g n (vilR fs n)) (hL_sw : sw ∈ L) (hf_sw : f sw = eR g nv (vilR fw nv)) (hn : n ≤ 8) (hrn : ∀ k, k < 12 → ∃ b, rn k = b2i b) (hnu : ∀ j, j < n → ∃ m : Nat, m ≤ 60 ∧ nu j = nI m) (hgl : ∀ k, k < 12 → ∃ m : Nat, m ≤ 60 ∧ gl k = nI m) (hSR : RowsB g L f 2 n fs (fun j => pr2 (kd j) (nu j))) (hWR : RowsB g L f 8 nv fw (fun v => (vs v).2.2.2.2)) (hd : d0 < 2 ^ 30) (hv : v < nv) (hnv : nv ≤ 6) : RO l g yX5_lean wsX5_lean 1 26 L f [.ref sm, .int (nI v)] (fun r => r = leadN (fun j => truth (sayB (kd j) (nu j) gl rn d0)) (vs v).2.2.2.2 n) := by
  refine RO.start (cc := cX5_lean) (maxL := 4) (ret := .int) (by decide +kernel) rfl (by simp [lg_sl, Value.category]) ?_
  intro p e s m args below meth c Q ls hx hb hml hts hown hP hK hl hend
  have hl : lv_has ls 4 [(0, .ref sm), (1, .int (nI v))] := hl
  have hi_X5 : ∀ w ∈ u_ws RX5 TX5 6, w ∈ wsX5_lean := by decide +kernel
  have n_sm_sg : sm ≠ sg := ne_e hf_sm hf_sg (by simp)
  have n_sm_sr : sm ≠ sr := ne_e hf_sm hf_sr (by simp)
  have n_sm_ss : sm ≠ ss := ne_e hf_sm hf_ss (by simp)
  have n_sm_sw : sm ≠ sw := ne_e hf_sm hf_sw (by simp)
  have n_sg_ss : sg ≠ ss := ne_e hf_sg hf_ss (by simp)
  have n_sg_sw : sg ≠ sw := ne_e hf_sg hf_sw (by simp)
  have n_sr_ss : sr ≠ ss := ne_e hf_sr hf_ss (by simp)
  have n_sr_sw : sr ≠ sw := ne_e hf_sr hf_sw (by simp)
  refine lv_iconst (v := 0) hx hb dX5_lean_0 (by decide) ?_
  refine lv_istore_n (lv' := [(2, .int 0), (0, .ref sm), (1, .int (nI v))]) hx hb dX5_lean_1 rfl hl (by decide) rfl (fun ls hl => ?_)
  refine lv_iconst (v := 0) hx hb dX5_lean_2 (by decide) ?_
  refine lv_istore_n (lv' := [(3, .int 0), (2, .int 0), (0, .ref sm), (1, .int (nI v))]) hx hb dX5_lean_3 rfl hl (by decide) rfl (fun ls hl => ?_)
  have K4 : ∀ (n4 : Nat) (i : Nat) (acc : Int32), n - i < n4 → i ≤ n → acc = leadN (fun j => truth (sayB (kd j) (nu j) gl rn d0)) (vs v).2.2.2.2 i → ∀ (ls : Array Slot), lv_has ls 4 [(3, .int (nI i)), (2, .int acc), (1, .int (nI v)), (0, .ref sm)] → W p l e ({ frames := 1, cells := 0, slots := 0, locals := 26 } : Room) s m args below meth c s.heap [] 0 0 Q (F0 m 4 ls []) := by
    intro n4
    induction n4 with
    | zero => intros; omega
    | succ n4 ih4 =>
      intro i acc hm4 hi ha ls hl
      refine lv_iload_n hx hb dX5_lean_4 rfl (lv_at hl 0 rfl) ?_
      refine lv_aload_n hx hb dX5_lean_5 rfl (lv_at hl 3 rfl) ?_
      refine pg_get (C := RX5) (T := TX5) (N := 6) hx hb hts hi_X5 hown hK hP hL_sm hf_sm rfl 3 (by decide) (hts (.fieldLink RX5 18 "BarometerLeagueLaw$Sim" "signs" "[[I") (by decide +kernel)) (fun _ h9 => h9) rfl dX5_lean_6 ?_
      refine pg_alen hx hb hK hP hL_ss hf_ss 4 rfl (v := nI n) rfl dX5_lean_9 ?_
      refine lv_icmp_ge (tgt := 48) hx hb dX5_lean_10 (by decide) (fun c10 => ?_) (fun c10 => ?_)
      · skip
        have c10 : n ≤ i := (nI_leI (a := n) (b := i) (by omega) (by omega)).mp (show nI n ≤ nI i from c10)
        refine lv_iload_n hx hb dX5_lean_48 rfl (lv_at hl 1 rfl) ?_
        exact hend (acc) _ _ (by rw [ha, show i = n from (by omega)]) rfl dX5_lean_49
      · skip
        have c10 : ¬ n ≤ i := fun h => c10 ((nI_leI (a := n) (b := i) (by omega) (by omega)).mpr h)
        refine lv_iload_n hx hb dX5_lean_13 rfl (lv_at hl 1 rfl) ?_
        refine lv_aload_n hx hb dX5_lean_14 rfl (lv_at hl 3 rfl) ?_
        refine lv_iload_n hx hb dX5_lean_15 rfl (lv_at hl 0 rfl) ?_
        refine lv_aload_n hx hb dX5_lean_16 rfl (lv_at hl 3 rfl) ?_
        refine pg_get (C := RX5) (T := TX5) (N := 6) hx hb hts hi_X5 hown hK hP hL_sm hf_sm rfl 0 (by decide) (hts (.fieldLink RX5 28 "BarometerLeagueLaw$Sim" "day" "I") (by decide +kernel)) (fun _ h9 => h9) rfl dX5_lean_17 ?_
        refine ro_V (As := [.int (nI i), .int (nI d0)]) (rest := [.int acc]) ⟨hx, hb, hml, hown, hts⟩ (m_X5_says l g L f _ _ _ _ _ _ _ _ _ _ _ _ _ i d0 hL_sm hf_sm hL_sg hf_sg hL_sr hf_sr hL_ss hf_ss hn hrn hnu hgl hSR (by omega) hd) (cwV 2 hts gX5_lean_X5_says rfl rfl rfl (by decide +kernel) ⟨Nat.le_of_ble_eq_true rfl, Nat.le_of_ble_eq_true rfl⟩) hK hP hL_sm hf_sm rfl rfl hl.1 rfl (Nat.le_of_ble_eq_true rfl) dX5_lean_20 ⟨Nat.zero_le _, Nat.zero_le _⟩ (fun r20 hr20 => ?_)
        have hr20 : r20 = b2i (sayB (kd i) (nu i) gl rn d0) := hr20
        subst hr20
        refine lv_if_eq (tgt := 30) hx hb dX5_lean_23 (by decide) (fun c23 => ?_) (fun c23 => ?_)
        · skip
          refine lv_iconst (v := (-1)) hx hb dX5_lean_30 (by decide) ?_
          refine lv_aload_n hx hb dX5_lean_31 rfl (lv_at hl 3 rfl) ?_
          refine pg_get (C := RX5) (T := TX5) (N := 6) hx hb hts hi_X5 hown hK hP hL_sm hf_sm rfl 5 (by decide) (hts (.fieldLink RX5 25 "BarometerLeagueLaw$Sim" "weights" "[[I") (by decide +kernel)) (fun _ h9 => h9) rfl dX5_lean_32 ?_
          refine lv_iload_n hx hb dX5_lean_35 rfl (lv_at hl 2 rfl) ?_
          refine pn_rald (j := v) hx hb hK hP hL_sw hf_sw rfl (by omega) (Nat.lt_of_lt_of_le (m := 100) (by omega) (by omega)) (vilR_at (by omega)) dX5_lean_36 ?_
          obtain ⟨hL_fw_v, z36, hf_fw_v, hz36⟩ := hWR v (by omega)
          refine lv_iload_n hx hb dX5_lean_37 rfl (lv_at hl 0 rfl) ?_
          refine pn_iald (j := i) hx hb hK hP hL_fw_v hf_fw_v rfl (by omega) (Nat.lt_of_lt_of_le (m := 100) (by omega) (by omega)) dX5_lean_38 ?_
          refine lv_imul hx hb dX5_lean_39 ?_
          refine lv_topi (fun v39 ev39 => ?_)
          refine lv_iadd hx hb dX5_lean_40 ?_
          refine lv_topi (fun v40 ev40 => ?_)
          refine lv_istore_n (lv' := [(2, .int v40), (3, .int (nI i)), (1, .int (nI v)), (0, .ref sm)]) hx hb dX5_lean_41 rfl hl (by decide) rfl (fun ls hl => ?_)
          refine lv_iinc (v := nI (i + 1)) (lv' := [(3, .int (nI (i + 1))), (2, .int v40), (1, .int (nI v)), (0, .ref sm)]) hx hb dX5_lean_42 hl (k := 1) rfl (nI_1 _) (by decide) rfl (fun ls hl => ?_)
          refine lv_goto (tgt := 4) hx hb dX5_lean_45 (by decide) ?_
          exact ih4 (i + 1) v40 (by omega) (by omega) (leanS ha (sg_f c23) (hz36 i (by omega)) ev39 ev40) ls (lv_sub hl [0, 1, 2, 3] rfl)
        · skip
          refine lv_iconst (v := 1) hx hb dX5_lean_26 (by decide) ?_
          refine lv_goto (tgt := 31) hx hb dX5_lean_27 (by decide) ?_
          refine lv_aload_n hx hb dX5_lean_31 rfl (lv_at hl 3 rfl) ?_
          refine pg_get (C := RX5) (T := TX5) (N := 6) hx hb hts hi_X5 hown hK hP hL_sm hf_sm rfl 5 (by decide) (hts (.fieldLink RX5 25 "BarometerLeagueLaw$Sim" "weights" "[[I") (by decide +kernel)) (fun _ h9 => h9) rfl dX5_lean_32 ?_
          refine lv_iload_n hx hb dX5_lean_35 rfl (lv_at hl 2 rfl) ?_
          refine pn_rald (j := v) hx hb hK hP hL_sw hf_sw rfl (by omega) (Nat.lt_of_lt_of_le (m := 100) (by omega) (by omega)) (vilR_at (by omega)) dX5_lean_36 ?_
          obtain ⟨hL_fw_v, z36, hf_fw_v, hz36⟩ := hWR v (by omega)
          refine lv_iload_n hx hb dX5_lean_37 rfl (lv_at hl 0 rfl) ?_
          refine pn_iald (j := i) hx hb hK hP hL_fw_v hf_fw_v rfl (by omega) (Nat.lt_of_lt_of_le (m := 100) (by omega) (by omega)) dX5_lean_38 ?_
          refine lv_imul hx hb dX5_lean_39 ?_
          refine lv_topi (fun v39 ev39 => ?_)
          refine lv_iadd hx hb dX5_lean_40 ?_
          refine lv_topi (fun v40 ev40 => ?_)
          refine lv_istore_n (lv' := [(2, .int v40), (3, .int (nI i)), (1, .int (nI v)), (0, .ref sm)]) hx hb dX5_lean_41 rfl hl (by decide) rfl (fun ls hl => ?_)
          refine lv_iinc (v := nI (i + 1)) (lv' := [(3, .int (nI (i + 1))), (2, .int v40), (1, .int (nI v)), (0, .ref sm)]) hx hb dX5_lean_42 hl (k := 1) rfl (nI_1 _) (by decide) rfl (fun ls hl => ?_)
          refine lv_goto (tgt := 4) hx hb dX5_lean_45 (by decide) ?_
          exact ih4 (i + 1) v40 (by omega) (by omega) (leanS ha (sg_t c23) (hz36 i (by omega)) ev39 ev40) ls (lv_sub hl [0, 1, 2, 3] rfl)
  exact K4 _ 0 0 (Nat.lt_succ_self _) (Nat.zero_le _) (rfl) ls (lv_sub hl [0, 1, 3, 2] rfl)

set_option maxHeartbeats 4000000 in
set_option maxRecDepth 100000 in
theorem m_X5_isAhead (l : Launch) (g : GG) (L : List Nat) (f : Nat → va_E) (sm sg sr ss sv sw d0 nv : Nat) (fv : Nat → Nat) (vs : Nat → VV) (a b : Nat) (hL_sm : sm ∈ L) (hf_sm : f sm = eO 6 [.int (nI d0), .ref sg, .ref sr, .ref ss, .ref sv, .ref sw]) (hL_sv : sv ∈ L) (hf_sv : f sv = eR g nv (vilR fv nv)) (hVR : RowsB g L f 3 nv fv (fun v => vr3 (vs v))) (ha : a < nv) (hb2 : b < nv) (hnv : nv ≤ 6) : RO l g yX5_isAhead wsX5_isAhead 0 0 L f [.ref sm, .int (nI a), .int (nI b)] (fun r => r = b2i (aheadB (vs a).2.1 (vs a).2.2.1 (nI a) (vs b).2.1 (vs b).2.2.1 (nI b))) := by
  refine RO.start (cc := cX5_isAhead) (maxL := 5) (ret := .boolean) (by decide +kernel) rfl (by simp [lg_sl, Value.category]) ?_
  intro p e s m args below meth c Q ls hx hb hml hts hown hP hK hl hend
  have hl : lv_has ls 5 [(0, .ref sm), (1, .int (nI a)), (2, .int (nI b))] := hl
  have hi_X5 : ∀ w ∈ u_ws RX5 TX5 6, w ∈ wsX5_isAhead := by decide +kernel
  have n_sm_sv : sm ≠ sv := ne_e hf_sm hf_sv (by simp)
  refine lv_aload_n hx hb dX5_isAhead_0 rfl (lv_at hl 0 rfl) ?_
  refine pg_get (C := RX5) (T := TX5) (N := 6) hx hb hts hi_X5 hown hK hP hL_sm hf_sm rfl 4 (by decide) (hts (.fieldLink RX5 22 "BarometerLeagueLaw$Sim" "villages" "[[I") (by decide +kernel)) (fun _ h9 => h9) rfl dX5_isAhead_1 ?_
  refine lv_iload_n hx hb dX5_isAhead_4 rfl (lv_at hl 1 rfl) ?_
  refine pn_rald (j := a) hx hb hK hP hL_sv hf_sv rfl (by omega) (Nat.lt_of_lt_of_le (m := 100) (by omega) (by omega)) (vilR_at (by omega)) dX5_isAhead_5 ?_
  obtain ⟨hL_fv_a, z5, hf_fv_a, hz5⟩ := hVR a (by omega)
  refine lv_astore_n (lv' := [(3, .ref (fv a)), (0, .ref sm), (1, .int (nI a)), (2, .int (nI b))]) hx hb dX5_isAhead_6 rfl hl (by decide) rfl (fun ls hl => ?_)
  refine lv_aload_n hx hb dX5_isAhead_7 rfl (lv_at hl 1 rfl) ?_
  refine pg_get (C := RX5) (T := TX5) (N := 6) hx hb hts hi_X5 hown hK hP hL_sm hf_sm rfl 4 (by decide) (hts (.fieldLink RX5 22 "BarometerLeagueLaw$Sim" "villages" "[[I") (by decide +kernel)) (fun _ h9 => h9) rfl dX5_isAhead_8 ?_
  refine lv_iload_n hx hb dX5_isAhead_11 rfl (lv_at hl 3 rfl) ?_
  refine pn_rald (j := b) hx hb hK hP hL_sv hf_sv rfl (by omega) (Nat.lt_of_lt_of_le (m := 100) (by omega) (by omega)) (vilR_at (by omega)) dX5_isAhead_12 ?_
  obtain ⟨hL_fv_b, z12, hf_fv_b, hz12⟩ := hVR b (by omega)
  refine lv_astore (lv' := [(4, .ref (fv b)), (3, .ref (fv a)), (0, .ref sm), (1, .int (nI a)), (2, .int (nI b))]) hx hb dX5_isAhead_13 hl (by decide) rfl (fun ls hl => ?_)
  refine lv_aload_n hx hb dX5_isAhead_15 rfl (lv_at hl 1 rfl) ?_
  refine lv_iconst (v := 0) hx hb dX5_isAhead_16 (by decide) ?_
  refine pn_iald (j := 0) hx hb hK hP hL_fv_a hf_fv_a rfl (by omega) (Nat.lt_of_lt_of_le (m := 100) (by omega) (by omega)) dX5_isAhead_17 ?_
  refine lv_aload hx hb dX5_isAhead_18 (lv_at hl 0 rfl) ?_
  refine lv_iconst (v := 0) hx hb dX5_isAhead_20 (by decide) ?_
  refine pn_iald (j := 0) hx hb hK hP hL_fv_b hf_fv_b rfl (by omega) (Nat.lt_of_lt_of_le (m := 100) (by omega) (by omega)) dX5_isAhead_21 ?_
  refine lv_icmp_gt (tgt := 60) hx hb dX5_isAhead_22 (by decide) (fun c22 => ?_) (fun c22 => ?_)
  · skip
    refine lv_iconst (v := 1) hx hb dX5_isAhead_60 (by decide) ?_
    refine lv_goto (tgt := 65) hx hb dX5_isAhead_61 (by decide) ?_
    exact hend (1) _ _ (b2i_p rfl (ahx1 (by rw [(show z5 0 = (vs a).2.1 from hz5 0 (by decide)), (show z12 0 = (vs b).2.1 from hz12 0 (by decide))] at c22; exact c22))) rfl dX5_isAhead_65
  · skip
    refine lv_aload_n hx hb dX5_isAhead_25 rfl (lv_at hl 1 rfl) ?_
    refine lv_iconst (v := 0) hx hb dX5_isAhead_26 (by decide) ?_
    refine pn_iald (j := 0) hx hb hK hP hL_fv_a hf_fv_a rfl (by omega) (Nat.lt_of_lt_of_le (m := 100) (by omega) (by omega)) dX5_isAhead_27 ?_
    refine lv_aload hx hb dX5_isAhead_28 (lv_at hl 0 rfl) ?_
    refine lv_iconst (v := 0) hx hb dX5_isAhead_30 (by decide) ?_
    refine pn_iald (j := 0) hx hb hK hP hL_fv_b hf_fv_b rfl (by omega) (Nat.lt_of_lt_of_le (m := 100) (by omega) (by omega)) dX5_isAhead_31 ?_
    refine lv_icmp_ne (tgt := 64) hx hb dX5_isAhead_32 (by decide) (fun c32 => ?_) (fun c32 => ?_)
    · skip
      refine lv_iconst (v := 0) hx hb dX5_isAhead_64 (by decide) ?_
      exact hend (0) _ _ (b2i_q rfl (ahy1 (by rw [(show z5 0 = (vs a).2.1 from hz5 0 (by decide)), (show z12 0 = (vs b).2.1 from hz12 0 (by decide))] at c32; exact c32) (by rw [(show z5 0 = (vs a).2.1 from hz5 0 (by decide)), (show z12 0 = (vs b).2.1 from hz12 0 (by decide))] at c22; exact c22))) rfl dX5_isAhead_65
    · skip
      refine lv_aload_n hx hb dX5_isAhead_35 rfl (lv_at hl 1 rfl) ?_
      refine lv_iconst (v := 1) hx hb dX5_isAhead_36 (by decide) ?_
      refine pn_iald (j := 1) hx hb hK hP hL_fv_a hf_fv_a rfl (by omega) (Nat.lt_of_lt_of_le (m := 100) (by omega) (by omega)) dX5_isAhead_37 ?_
      refine lv_aload hx hb dX5_isAhead_38 (lv_at hl 0 rfl) ?_
      refine lv_iconst (v := 1) hx hb dX5_isAhead_40 (by decide) ?_
      refine pn_iald (j := 1) hx hb hK hP hL_fv_b hf_fv_b rfl (by omega) (Nat.lt_of_lt_of_le (m := 100) (by omega) (by omega)) dX5_isAhead_41 ?_
      refine lv_icmp_gt (tgt := 60) hx hb dX5_isAhead_42 (by decide) (fun c42 => ?_) (fun c42 => ?_)
      · skip
        refine lv_iconst (v := 1) hx hb dX5_isAhead_60 (by decide) ?_
        refine lv_goto (tgt := 65) hx hb dX5_isAhead_61 (by decide) ?_
        exact hend (1) _ _ (b2i_p rfl (ahx2 (by rw [(show z5 0 = (vs a).2.1 from hz5 0 (by decide)), (show z12 0 = (vs b).2.1 from hz12 0 (by decide))] at c32; exact c32) (by rw [(show z5 1 = (vs a).2.2.1 from hz5 1 (by decide)), (show z12 1 = (vs b).2.2.1 from hz12 1 (by decide))] at c42; exact c42))) rfl dX5_isAhead_65
      · skip
        refine lv_aload_n hx hb dX5_isAhead_45 rfl (lv_at hl 1 rfl) ?_
        refine lv_iconst (v := 1) hx hb dX5_isAhead_46 (by decide) ?_
        refine pn_iald (j := 1) hx hb hK hP hL_fv_a hf_fv_a rfl (by omega) (Nat.lt_of_lt_of_le (m := 100) (by omega) (by omega)) dX5_isAhead_47 ?_
        refine lv_aload hx hb dX5_isAhead_48 (lv_at hl 0 rfl) ?_
        refine lv_iconst (v := 1) hx hb dX5_isAhead_50 (by decide) ?_
        refine pn_iald (j := 1) hx hb hK hP hL_fv_b hf_fv_b rfl (by omega) (Nat.lt_of_lt_of_le (m := 100) (by omega) (by omega)) dX5_isAhead_51 ?_
        refine lv_icmp_ne (tgt := 64) hx hb dX5_isAhead_52 (by decide) (fun c52 => ?_) (fun c52 => ?_)
        · skip
          refine lv_iconst (v := 0) hx hb dX5_isAhead_64 (by decide) ?_
          exact hend (0) _ _ (b2i_q rfl (ahy2 (by rw [(show z5 0 = (vs a).2.1 from hz5 0 (by decide)), (show z12 0 = (vs b).2.1 from hz12 0 (by decide))] at c32; exact c32) (by rw [(show z5 1 = (vs a).2.2.1 from hz5 1 (by decide)), (show z12 1 = (vs b).2.2.1 from hz12 1 (by decide))] at c52; exact c52) (by rw [(show z5 1 = (vs a).2.2.1 from hz5 1 (by decide)), (show z12 1 = (vs b).2.2.1 from hz12 1 (by decide))] at c42; exact c42))) rfl dX5_isAhead_65
        · skip
          refine lv_iload_n hx hb dX5_isAhead_55 rfl (lv_at hl 3 rfl) ?_
          refine lv_iload_n hx hb dX5_isAhead_56 rfl (lv_at hl 4 rfl) ?_
          refine lv_icmp_ge (tgt := 64) hx hb dX5_isAhead_57 (by decide) (fun c57 => ?_) (fun c57 => ?_)
          · skip
            have c57 : b ≤ a := (nI_leI (a := b) (b := a) (by omega) (by omega)).mp (show nI b ≤ nI a from c57)
            refine lv_iconst (v := 0) hx hb dX5_isAhead_64 (by decide) ?_
            exact hend (0) _ _ (b2i_q rfl (ahy3 (by rw [(show z5 0 = (vs a).2.1 from hz5 0 (by decide)), (show z12 0 = (vs b).2.1 from hz12 0 (by decide))] at c32; exact c32) (by rw [(show z5 1 = (vs a).2.2.1 from hz5 1 (by decide)), (show z12 1 = (vs b).2.2.1 from hz12 1 (by decide))] at c52; exact c52) (nI_nlt (by omega) (by omega)))) rfl dX5_isAhead_65
          · skip
            have c57 : ¬ b ≤ a := fun h => c57 ((nI_leI (a := b) (b := a) (by omega) (by omega)).mpr h)
            refine lv_iconst (v := 1) hx hb dX5_isAhead_60 (by decide) ?_
            refine lv_goto (tgt := 65) hx hb dX5_isAhead_61 (by decide) ?_
            exact hend (1) _ _ (b2i_p rfl (ahx3 (by rw [(show z5 0 = (vs a).2.1 from hz5 0 (by decide)), (show z12 0 = (vs b).2.1 from hz12 0 (by decide))] at c32; exact c32) (by rw [(show z5 1 = (vs a).2.2.1 from hz5 1 (by decide)), (show z12 1 = (vs b).2.2.1 from hz12 1 (by decide))] at c52; exact c52) (nI_lt (by omega) (by omega)))) rfl dX5_isAhead_65

set_option maxHeartbeats 4000000 in
set_option maxRecDepth 100000 in
theorem m_X5_place (l : Launch) (g : GG) (L : List Nat) (f : Nat → va_E) (sm sg sr ss sv sw d0 nv : Nat) (fv : Nat → Nat) (vs : Nat → VV) (v : Nat) (hL_sm : sm ∈ L) (hf_sm : f sm = eO 6 [.int (nI d0), .ref sg, .ref sr, .ref ss, .ref sv, .ref sw]) (hL_sv : sv ∈ L) (hf_sv : f sv = eR g nv (vilR fv nv)) (hVR : RowsB g L f 3 nv fv (fun v => vr3 (vs v))) (hv : v < nv) (hnv : nv ≤ 6) : RO l g yX5_place wsX5_place 1 24 L f [.ref sm, .int (nI v)] (fun r => r = 1 + sumN (fun u => b2i (aheadB (vs u).2.1 (vs u).2.2.1 (nI u) (vs v).2.1 (vs v).2.2.1 (nI v))) nv) := by
  refine RO.start (cc := cX5_place) (maxL := 4) (ret := .int) (by decide +kernel) rfl (by simp [lg_sl, Value.category]) ?_
  intro p e s m args below meth c Q ls hx hb hml hts hown hP hK hl hend
  have hl : lv_has ls 4 [(0, .ref sm), (1, .int (nI v))] := hl
  have hi_X5 : ∀ w ∈ u_ws RX5 TX5 6, w ∈ wsX5_place := by decide +kernel
  have n_sm_sv : sm ≠ sv := ne_e hf_sm hf_sv (by simp)
  refine lv_iconst (v := 1) hx hb dX5_place_0 (by decide) ?_
  refine lv_istore_n (lv' := [(2, .int 1), (0, .ref sm), (1, .int (nI v))]) hx hb dX5_place_1 rfl hl (by decide) rfl (fun ls hl => ?_)
  refine lv_iconst (v := 0) hx hb dX5_place_2 (by decide) ?_
  refine lv_istore_n (lv' := [(3, .int 0), (2, .int 1), (0, .ref sm), (1, .int (nI v))]) hx hb dX5_place_3 rfl hl (by decide) rfl (fun ls hl => ?_)
  have K4 : ∀ (n4 : Nat) (i : Nat) (acc : Int32), nv - i < n4 → i ≤ nv → acc = 1 + sumN (fun u => b2i (aheadB (vs u).2.1 (vs u).2.2.1 (nI u) (vs v).2.1 (vs v).2.2.1 (nI v))) i → ∀ (ls : Array Slot), lv_has ls 4 [(3, .int (nI i)), (2, .int acc), (1, .int (nI v)), (0, .ref sm)] → W p l e ({ frames := 1, cells := 0, slots := 0, locals := 24 } : Room) s m args below meth c s.heap [] 0 0 Q (F0 m 4 ls []) := by
    intro n4
    induction n4 with
    | zero => intros; omega
    | succ n4 ih4 =>
      intro i acc hm4 hi ha ls hl
      refine lv_iload_n hx hb dX5_place_4 rfl (lv_at hl 0 rfl) ?_
      refine lv_aload_n hx hb dX5_place_5 rfl (lv_at hl 3 rfl) ?_
      refine pg_get (C := RX5) (T := TX5) (N := 6) hx hb hts hi_X5 hown hK hP hL_sm hf_sm rfl 4 (by decide) (hts (.fieldLink RX5 22 "BarometerLeagueLaw$Sim" "villages" "[[I") (by decide +kernel)) (fun _ h9 => h9) rfl dX5_place_6 ?_
      refine pg_alen hx hb hK hP hL_sv hf_sv 4 rfl (v := nI nv) rfl dX5_place_9 ?_
      refine lv_icmp_ge (tgt := 36) hx hb dX5_place_10 (by decide) (fun c10 => ?_) (fun c10 => ?_)
      · skip
        have c10 : nv ≤ i := (nI_leI (a := nv) (b := i) (by omega) (by omega)).mp (show nI nv ≤ nI i from c10)
        refine lv_iload_n hx hb dX5_place_36 rfl (lv_at hl 1 rfl) ?_
        exact hend (acc) _ _ (by rw [ha, show i = nv from (by omega)]) rfl dX5_place_37
      · skip
        have c10 : ¬ nv ≤ i := fun h => c10 ((nI_leI (a := nv) (b := i) (by omega) (by omega)).mpr h)
        refine lv_iload_n hx hb dX5_place_13 rfl (lv_at hl 1 rfl) ?_
        refine lv_aload_n hx hb dX5_place_14 rfl (lv_at hl 3 rfl) ?_
        refine lv_iload_n hx hb dX5_place_15 rfl (lv_at hl 0 rfl) ?_
        refine lv_iload_n hx hb dX5_place_16 rfl (lv_at hl 2 rfl) ?_
        refine ro_V (As := [.int (nI i), .int (nI v)]) (rest := [.int acc]) ⟨hx, hb, hml, hown, hts⟩ (m_X5_isAhead l g L f _ _ _ _ _ _ _ _ _ _ i v hL_sm hf_sm hL_sv hf_sv hVR (by omega) hv hnv) (cwV 2 hts gX5_place_X5_isAhead rfl rfl rfl (by decide +kernel) ⟨Nat.le_of_ble_eq_true rfl, Nat.le_of_ble_eq_true rfl⟩) hK hP hL_sm hf_sm rfl rfl hl.1 rfl (Nat.le_of_ble_eq_true rfl) dX5_place_17 ⟨Nat.zero_le _, Nat.zero_le _⟩ (fun r17 hr17 => ?_)
        have hr17 : r17 = b2i (aheadB (vs i).2.1 (vs i).2.2.1 (nI i) (vs v).2.1 (vs v).2.2.1 (nI v)) := hr17
        subst hr17
        refine lv_if_eq (tgt := 27) hx hb dX5_place_20 (by decide) (fun c20 => ?_) (fun c20 => ?_)
        · skip
          refine lv_iconst (v := 0) hx hb dX5_place_27 (by decide) ?_
          refine lv_iadd hx hb dX5_place_28 ?_
          refine lv_topi (fun v28 ev28 => ?_)
          refine lv_istore_n (lv' := [(2, .int v28), (3, .int (nI i)), (1, .int (nI v)), (0, .ref sm)]) hx hb dX5_place_29 rfl hl (by decide) rfl (fun ls hl => ?_)
          refine lv_iinc (v := nI (i + 1)) (lv' := [(3, .int (nI (i + 1))), (2, .int v28), (1, .int (nI v)), (0, .ref sm)]) hx hb dX5_place_30 hl (k := 1) rfl (nI_1 _) (by decide) rfl (fun ls hl => ?_)
          refine lv_goto (tgt := 4) hx hb dX5_place_33 (by decide) ?_
          exact ih4 (i + 1) v28 (by omega) (by omega) (sum1_b ha (c20.symm) ev28) ls (lv_sub hl [0, 1, 2, 3] rfl)
        · skip
          refine lv_iconst (v := 1) hx hb dX5_place_23 (by decide) ?_
          refine lv_goto (tgt := 28) hx hb dX5_place_24 (by decide) ?_
          refine lv_iadd hx hb dX5_place_28 ?_
          refine lv_topi (fun v28 ev28 => ?_)
          refine lv_istore_n (lv' := [(2, .int v28), (3, .int (nI i)), (1, .int (nI v)), (0, .ref sm)]) hx hb dX5_place_29 rfl hl (by decide) rfl (fun ls hl => ?_)
          refine lv_iinc (v := nI (i + 1)) (lv' := [(3, .int (nI (i + 1))), (2, .int v28), (1, .int (nI v)), (0, .ref sm)]) hx hb dX5_place_30 hl (k := 1) rfl (nI_1 _) (by decide) rfl (fun ls hl => ?_)
          refine lv_goto (tgt := 4) hx hb dX5_place_33 (by decide) ?_
          exact ih4 (i + 1) v28 (by omega) (by omega) (sum1_b ha ((bool1 ⟨_, rfl⟩ c20).symm) ev28) ls (lv_sub hl [0, 1, 2, 3] rfl)
  exact K4 _ 0 1 (Nat.lt_succ_self _) (Nat.zero_le _) (rfl) ls (lv_sub hl [0, 1, 3, 2] rfl)

set_option maxHeartbeats 4000000 in
set_option maxRecDepth 100000 in
theorem m_X5_right (l : Launch) (g : GG) (L : List Nat) (f : Nat → va_E) (sm sg sr ss sv sw d0 n : Nat) (fs : Nat → Nat) (gl rn kd nu : Nat → Int32) (j : Nat) (hL_sm : sm ∈ L) (hf_sm : f sm = eO 6 [.int (nI d0), .ref sg, .ref sr, .ref ss, .ref sv, .ref sw]) (hL_sg : sg ∈ L) (hf_sg : f sg = eI g 12 gl) (hL_sr : sr ∈ L) (hf_sr : f sr = eZ g 12 rn) (hL_ss : ss ∈ L) (hf_ss : f ss = eR g n (vilR fs n)) (hn : n ≤ 8) (hrn : ∀ k, k < 12 → ∃ b, rn k = b2i b) (hnu : ∀ j, j < n → ∃ m : Nat, m ≤ 60 ∧ nu j = nI m) (hgl : ∀ k, k < 12 → ∃ m : Nat, m ≤ 60 ∧ gl k = nI m) (hSR : RowsB g L f 2 n fs (fun j => pr2 (kd j) (nu j))) (hj : j < n) : RO l g yX5_right wsX5_right 1 26 L f [.ref sm, .int (nI j)] (fun r => r = rightN (kd j) (nu j) gl rn 12) := by
  refine RO.start (cc := cX5_right) (maxL := 4) (ret := .int) (by decide +kernel) rfl (by simp [lg_sl, Value.category]) ?_
  intro p e s m args below meth c Q ls hx hb hml hts hown hP hK hl hend
  have hl : lv_has ls 4 [(0, .ref sm), (1, .int (nI j))] := hl
  have hi_X5 : ∀ w ∈ u_ws RX5 TX5 6, w ∈ wsX5_right := by decide +kernel
  have n_sm_sg : sm ≠ sg := ne_e hf_sm hf_sg (by simp)
  have n_sm_sr : sm ≠ sr := ne_e hf_sm hf_sr (by simp)
  have n_sm_ss : sm ≠ ss := ne_e hf_sm hf_ss (by simp)
  have n_sg_ss : sg ≠ ss := ne_e hf_sg hf_ss (by simp)
  have n_sr_ss : sr ≠ ss := ne_e hf_sr hf_ss (by simp)
  refine lv_iconst (v := 0) hx hb dX5_right_0 (by decide) ?_
  refine lv_istore_n (lv' := [(2, .int 0), (0, .ref sm), (1, .int (nI j))]) hx hb dX5_right_1 rfl hl (by decide) rfl (fun ls hl => ?_)
  refine lv_iconst (v := 0) hx hb dX5_right_2 (by decide) ?_
  refine lv_istore_n (lv' := [(3, .int 0), (2, .int 0), (0, .ref sm), (1, .int (nI j))]) hx hb dX5_right_3 rfl hl (by decide) rfl (fun ls hl => ?_)
  have K4 : ∀ (n4 : Nat) (i : Nat) (acc : Int32), 12 - i < n4 → i ≤ 12 → acc = rightN (kd j) (nu j) gl rn i → ∀ (ls : Array Slot), lv_has ls 4 [(3, .int (nI i)), (2, .int acc), (1, .int (nI j)), (0, .ref sm)] → W p l e ({ frames := 1, cells := 0, slots := 0, locals := 26 } : Room) s m args below meth c s.heap [] 0 0 Q (F0 m 4 ls []) := by
    intro n4
    induction n4 with
    | zero => intros; omega
    | succ n4 ih4 =>
      intro i acc hm4 hi ha ls hl
      refine lv_iload_n hx hb dX5_right_4 rfl (lv_at hl 0 rfl) ?_
      refine lv_bipush (v := 12) hx hb dX5_right_5 (by decide) ?_
      refine lv_icmp_ge (tgt := 39) hx hb dX5_right_7 (by decide) (fun c7 => ?_) (fun c7 => ?_)
      · skip
        have c7 : 12 ≤ i := (nI_leI (a := 12) (b := i) (by omega) (by omega)).mp (show nI 12 ≤ nI i from c7)
        refine lv_iload_n hx hb dX5_right_39 rfl (lv_at hl 1 rfl) ?_
        exact hend (acc) _ _ (by rw [ha, show i = 12 from (by omega)]) rfl dX5_right_40
      · skip
        have c7 : ¬ 12 ≤ i := fun h => c7 ((nI_leI (a := 12) (b := i) (by omega) (by omega)).mpr h)
        refine lv_iload_n hx hb dX5_right_10 rfl (lv_at hl 1 rfl) ?_
        refine lv_aload_n hx hb dX5_right_11 rfl (lv_at hl 3 rfl) ?_
        refine lv_iload_n hx hb dX5_right_12 rfl (lv_at hl 2 rfl) ?_
        refine lv_iload_n hx hb dX5_right_13 rfl (lv_at hl 0 rfl) ?_
        refine ro_V (As := [.int (nI j), .int (nI i)]) (rest := [.int acc]) ⟨hx, hb, hml, hown, hts⟩ (m_X5_says l g L f _ _ _ _ _ _ _ _ _ _ _ _ _ j i hL_sm hf_sm hL_sg hf_sg hL_sr hf_sr hL_ss hf_ss hn hrn hnu hgl hSR (by omega) (by omega)) (cwV 2 hts gX5_right_X5_says rfl rfl rfl (by decide +kernel) ⟨Nat.le_of_ble_eq_true rfl, Nat.le_of_ble_eq_true rfl⟩) hK hP hL_sm hf_sm rfl rfl hl.1 rfl (Nat.le_of_ble_eq_true rfl) dX5_right_14 ⟨Nat.zero_le _, Nat.zero_le _⟩ (fun r14 hr14 => ?_)
        have hr14 : r14 = b2i (sayB (kd j) (nu j) gl rn i) := hr14
        subst hr14
        refine lv_aload_n hx hb dX5_right_17 rfl (lv_at hl 3 rfl) ?_
        refine pg_get (C := RX5) (T := TX5) (N := 6) hx hb hts hi_X5 hown hK hP hL_sm hf_sm rfl 2 (by decide) (hts (.fieldLink RX5 13 "BarometerLeagueLaw$Sim" "rain" "[Z") (by decide +kernel)) (fun _ h9 => h9) rfl dX5_right_18 ?_
        refine lv_iload_n hx hb dX5_right_21 rfl (lv_at hl 0 rfl) ?_
        refine pn_zald (j := i) hx hb hK hP hL_sr hf_sr rfl (by omega) (Nat.lt_of_lt_of_le (m := 100) (by omega) (by omega)) dX5_right_22 ?_
        refine lv_icmp_ne (tgt := 30) hx hb dX5_right_23 (by decide) (fun c23 => ?_) (fun c23 => ?_)
        · skip
          refine lv_iconst (v := 0) hx hb dX5_right_30 (by decide) ?_
          refine lv_iadd hx hb dX5_right_31 ?_
          refine lv_topi (fun v31 ev31 => ?_)
          refine lv_istore_n (lv' := [(2, .int v31), (3, .int (nI i)), (1, .int (nI j)), (0, .ref sm)]) hx hb dX5_right_32 rfl hl (by decide) rfl (fun ls hl => ?_)
          refine lv_iinc (v := nI (i + 1)) (lv' := [(3, .int (nI (i + 1))), (2, .int v31), (1, .int (nI j)), (0, .ref sm)]) hx hb dX5_right_33 hl (k := 1) rfl (nI_1 _) (by decide) rfl (fun ls hl => ?_)
          refine lv_goto (tgt := 4) hx hb dX5_right_36 (by decide) ?_
          exact ih4 (i + 1) v31 (by omega) (by omega) (sumN_e ha ((drF (hrn i (by omega)) c23).symm) ev31) ls (lv_sub hl [0, 1, 2, 3] rfl)
        · skip
          refine lv_iconst (v := 1) hx hb dX5_right_26 (by decide) ?_
          refine lv_goto (tgt := 31) hx hb dX5_right_27 (by decide) ?_
          refine lv_iadd hx hb dX5_right_31 ?_
          refine lv_topi (fun v31 ev31 => ?_)
          refine lv_istore_n (lv' := [(2, .int v31), (3, .int (nI i)), (1, .int (nI j)), (0, .ref sm)]) hx hb dX5_right_32 rfl hl (by decide) rfl (fun ls hl => ?_)
          refine lv_iinc (v := nI (i + 1)) (lv' := [(3, .int (nI (i + 1))), (2, .int v31), (1, .int (nI j)), (0, .ref sm)]) hx hb dX5_right_33 hl (k := 1) rfl (nI_1 _) (by decide) rfl (fun ls hl => ?_)
          refine lv_goto (tgt := 4) hx hb dX5_right_36 (by decide) ?_
          exact ih4 (i + 1) v31 (by omega) (by omega) (sumN_e ha ((drT (hrn i (by omega)) c23).symm) ev31) ls (lv_sub hl [0, 1, 2, 3] rfl)
  exact K4 _ 0 0 (Nat.lt_succ_self _) (Nat.zero_le _) (rfl) ls (lv_sub hl [0, 1, 3, 2] rfl)
