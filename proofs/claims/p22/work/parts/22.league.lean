set_option maxHeartbeats 4000000 in
set_option maxRecDepth 100000 in
theorem m_X4_sayingsOn (l : Launch) (g : GG) (L : List Nat) (f : Nat → va_E) (sz : Nat) (hN : L.Nodup) (lo we al rv d sy rt ed n ga ra : Nat) (mo : Int32) (gl rn sa kd nu : Nat → Int32) (so : Nat → Nat) (el : Nat → Option Nat) (d2 : Nat) (hL_lo : lo ∈ L) (hf_lo : f lo = eO 5 [.ref we, .ref al, .ref rv, .int (nI d), .ref sy, .ref rt]) (hL_al : al ∈ L) (hf_al : f al = eO 0 [.int mo, .ref ed, .int (nI n)]) (hL_we : we ∈ L) (hf_we : f we = eO 4 [.ref ga, .ref ra]) (hL_ga : ga ∈ L) (hf_ga : f ga = eI g 12 gl) (hL_ra : ra ∈ L) (hf_ra : f ra = eZ g 12 rn) (hL_sy : sy ∈ L) (hf_sy : f sy = eI g 8 sa) (hn : n ≤ 8) (hrn : ∀ k, k < 12 → ∃ b, rn k = b2i b) (hd : d2 < 2 ^ 30) (hSg : Sgs g L f n ed so el kd nu) : RF l g yX4_sayingsOn wsX4_sayingsOn 3 68 L f sz [.ref lo, .int (nI d2)] sy (fun f2 => f2 sy = eI g 8 (saS kd nu gl rn n d2 sa) ∧ Fr f f2 [sy]) := by
  refine RF.start (cc := cX4_sayingsOn) (maxL := 3) (ret := (.array .int)) (by decide +kernel) rfl (by simp [lg_sl, Value.category]) (Or.inr ⟨_, rfl⟩) ?_
  intro p e s m args below meth c Q ls A hx hb hml hts hown hA hA2 hS hP hK hl hend
  have hl : lv_has ls 3 [(0, .ref lo), (1, .int (nI d2))] := hl
  have hi_X4 : ∀ w ∈ u_ws RX4 TX4 6, w ∈ wsX4_sayingsOn := by decide +kernel
  have hFr : Fr f f [sy] := Fr.rf
  have n_lo_al : lo ≠ al := ne_e hf_lo hf_al (by simp)
  have n_lo_we : lo ≠ we := ne_e hf_lo hf_we (by simp)
  have n_lo_ga : lo ≠ ga := ne_e hf_lo hf_ga (by simp)
  have n_lo_ra : lo ≠ ra := ne_e hf_lo hf_ra (by simp)
  have n_lo_sy : lo ≠ sy := ne_e hf_lo hf_sy (by simp)
  have n_al_we : al ≠ we := ne_e hf_al hf_we (by simp)
  have n_al_ga : al ≠ ga := ne_e hf_al hf_ga (by simp)
  have n_al_ra : al ≠ ra := ne_e hf_al hf_ra (by simp)
  have n_al_sy : al ≠ sy := ne_e hf_al hf_sy (by simp)
  have n_we_ga : we ≠ ga := ne_e hf_we hf_ga (by simp)
  have n_we_ra : we ≠ ra := ne_e hf_we hf_ra (by simp)
  have n_we_sy : we ≠ sy := ne_e hf_we hf_sy (by simp)
  have n_ga_sy : ga ≠ sy := ne_e hf_ga hf_sy (by simp)
  have n_ra_sy : ra ≠ sy := ne_e hf_ra hf_sy (by simp)
  have h0f_lo := hf_lo
  have h0f_al := hf_al
  have h0f_we := hf_we
  have h0f_ga := hf_ga
  have h0f_ra := hf_ra
  have h0f_sy := hf_sy
  refine lv_iconst (v := 0) hx hb dX4_sayingsOn_0 (by decide) ?_
  refine lv_istore_n (lv' := [(2, .int 0), (0, .ref lo), (1, .int (nI d2))]) hx hb dX4_sayingsOn_1 rfl hl (by decide) rfl (fun ls hl => ?_)
  have hf_sy : f sy = eI g 8 (mapN (fun j _ => truth (sayB (kd j) (nu j) gl rn d2)) sa 0) := by rw [hf_sy, mapN_0]
  have K2 : ∀ (n2 : Nat) (i : Nat) (f2 : Nat → va_E) (H : Heap) (locs : List Loc), n - i < n2 → i ≤ n → f2 sy = eI g 8 (mapN (fun j _ => truth (sayB (kd j) (nu j) gl rn d2)) sa i) → Fr f f2 [sy] → PP g L f2 H → va_S A s.heap H locs → ∀ (ls : Array Slot), lv_has ls 3 [(2, .int (nI i)), (1, .int (nI d2)), (0, .ref lo)] → W p l e ({ frames := 3, cells := 0, slots := 0, locals := 68 } : Room) s m args below meth c H locs 0 0 Q (F0 m 2 ls []) := by
    intro n2
    induction n2 with
    | zero => intros; omega
    | succ n2 ih2 =>
      intro i f2 H locs hm2 hi hq2_0 hFr hP hS ls hl
      have hf_lo : f2 lo = eO 5 [.ref we, .ref al, .ref rv, .int (nI d), .ref sy, .ref rt] := hFr.get h0f_lo (nm_c n_lo_sy (List.not_mem_nil))
      have hf_al : f2 al = eO 0 [.int mo, .ref ed, .int (nI n)] := hFr.get h0f_al (nm_c n_al_sy (List.not_mem_nil))
      have hf_we : f2 we = eO 4 [.ref ga, .ref ra] := hFr.get h0f_we (nm_c n_we_sy (List.not_mem_nil))
      have hf_ga : f2 ga = eI g 12 gl := hFr.get h0f_ga (nm_c n_ga_sy (List.not_mem_nil))
      have hf_ra : f2 ra = eZ g 12 rn := hFr.get h0f_ra (nm_c n_ra_sy (List.not_mem_nil))
      have hf_sy : f2 sy = eI g 8 (mapN (fun j _ => truth (sayB (kd j) (nu j) gl rn d2)) sa i) := hq2_0
      refine lv_iload_n hx hb dX4_sayingsOn_2 rfl (lv_at hl 0 rfl) ?_
      refine lv_aload_n hx hb dX4_sayingsOn_3 rfl (lv_at hl 2 rfl) ?_
      refine pg_get (C := RX4) (T := TX4) (N := 6) hx hb hts hi_X4 hown hK hP hL_lo hf_lo rfl 4 (by decide) (hts (.fieldLink RX4 32 "BarometerLeague" "sayings" "[I") (by decide +kernel)) (fun _ h9 => h9) rfl dX4_sayingsOn_4 ?_
      refine pg_alen hx hb hK hP hL_sy hf_sy 0 rfl (v := nI 8) rfl dX4_sayingsOn_7 ?_
      refine lv_icmp_ge (tgt := 61) hx hb dX4_sayingsOn_8 (by decide) (fun c8 => ?_) (fun c8 => ?_)
      · skip
        have c8 : 8 ≤ i := (nI_leI (a := 8) (b := i) (by omega) (by omega)).mp (show nI 8 ≤ nI i from c8)
        refine lv_aload_n hx hb dX4_sayingsOn_61 rfl (lv_at hl 2 rfl) ?_
        refine pg_get (C := RX4) (T := TX4) (N := 6) hx hb hts hi_X4 hown hK hP hL_lo hf_lo rfl 4 (by decide) (hts (.fieldLink RX4 32 "BarometerLeague" "sayings" "[I") (by decide +kernel)) (fun _ h9 => h9) rfl dX4_sayingsOn_62 ?_
        exact hend f2 _ _ _ _ (⟨by rw [hf_sy]; unfold saS; rw [show i = n from (by omega)], hFr⟩) hP hS dX4_sayingsOn_65
      · skip
        have c8 : ¬ 8 ≤ i := fun h => c8 ((nI_leI (a := 8) (b := i) (by omega) (by omega)).mpr h)
        refine lv_iload_n hx hb dX4_sayingsOn_11 rfl (lv_at hl 0 rfl) ?_
        refine lv_aload_n hx hb dX4_sayingsOn_12 rfl (lv_at hl 2 rfl) ?_
        refine pg_get (C := RX4) (T := TX4) (N := 6) hx hb hts hi_X4 hown hK hP hL_lo hf_lo rfl 1 (by decide) (hts (.fieldLink RX4 19 "BarometerLeague" "signs" "Ljava/util/ArrayList;") (by decide +kernel)) (fun _ h9 => h9) rfl dX4_sayingsOn_13 ?_
        refine ro_V (As := []) (rest := [.int (nI i)]) ⟨hx, hb, hml, hown, hts⟩ (m_Jx4a65c_size_8abf5 l g L f2 _ _ _ _ hL_al hf_al) (cwV 0 hts gX4_sayingsOn_Jx4a65c_size_8abf5 rfl rfl rfl (by decide +kernel) ⟨Nat.le_of_ble_eq_true rfl, Nat.le_of_ble_eq_true rfl⟩) hK hP hL_al hf_al rfl rfl hl.1 rfl (Nat.le_of_ble_eq_true rfl) dX4_sayingsOn_16 ⟨Nat.zero_le _, Nat.zero_le _⟩ (fun r16 hr16 => ?_)
        have hr16 : r16 = nI n := hr16
        subst hr16
        refine lv_icmp_ge (tgt := 61) hx hb dX4_sayingsOn_19 (by decide) (fun c19 => ?_) (fun c19 => ?_)
        · skip
          have c19 : n ≤ i := (nI_leI (a := n) (b := i) (by omega) (by omega)).mp (show nI n ≤ nI i from c19)
          refine lv_aload_n hx hb dX4_sayingsOn_61 rfl (lv_at hl 2 rfl) ?_
          refine pg_get (C := RX4) (T := TX4) (N := 6) hx hb hts hi_X4 hown hK hP hL_lo hf_lo rfl 4 (by decide) (hts (.fieldLink RX4 32 "BarometerLeague" "sayings" "[I") (by decide +kernel)) (fun _ h9 => h9) rfl dX4_sayingsOn_62 ?_
          exact hend f2 _ _ _ _ (⟨by rw [hf_sy]; unfold saS; rw [show i = n from (by omega)], hFr⟩) hP hS dX4_sayingsOn_65
        · skip
          have c19 : ¬ n ≤ i := fun h => c19 ((nI_leI (a := n) (b := i) (by omega) (by omega)).mpr h)
          have hSg2 := hSg.frI hFr h0f_sy
          obtain ⟨hL_so_i, hf_so_i, hel_so_i, hL_ed, hf_ed⟩ := hSg2 i (by omega)
          refine lv_aload_n hx hb dX4_sayingsOn_22 rfl (lv_at hl 2 rfl) ?_
          refine pg_get (C := RX4) (T := TX4) (N := 6) hx hb hts hi_X4 hown hK hP hL_lo hf_lo rfl 4 (by decide) (hts (.fieldLink RX4 32 "BarometerLeague" "sayings" "[I") (by decide +kernel)) (fun _ h9 => h9) rfl dX4_sayingsOn_23 ?_
          refine lv_iload_n hx hb dX4_sayingsOn_26 rfl (lv_at hl 0 rfl) ?_
          refine lv_aload_n hx hb dX4_sayingsOn_27 rfl (lv_at hl 2 rfl) ?_
          refine pg_get (C := RX4) (T := TX4) (N := 6) hx hb hts hi_X4 hown hK hP hL_lo hf_lo rfl 1 (by decide) (hts (.fieldLink RX4 19 "BarometerLeague" "signs" "Ljava/util/ArrayList;") (by decide +kernel)) (fun _ h9 => h9) rfl dX4_sayingsOn_28 ?_
          refine lv_iload_n hx hb dX4_sayingsOn_31 rfl (lv_at hl 0 rfl) ?_
          refine rq_V (As := [.int (nI i)]) (rest := [.int (nI i), .ref sy]) ⟨hx, hb, hml, hown, hts⟩ (m_Jx4a65c_get_915e3 l g L f2 al ed n (so i) i _ el hL_al hf_al hL_ed hf_ed (by omega) hn hel_so_i) (cwV 1 hts gX4_sayingsOn_Jx4a65c_get_915e3 rfl rfl rfl (by decide +kernel) ⟨Nat.le_of_ble_eq_true rfl, Nat.le_of_ble_eq_true rfl⟩) hK hP hL_al hf_al rfl rfl hl.1 rfl (Nat.le_of_ble_eq_true rfl) dX4_sayingsOn_32 ⟨Nat.zero_le _, Nat.zero_le _⟩ ?_
          refine va_castS hx hb hown (hts (.classLink RX4 78 "BarometerLeague$Sign") (by decide +kernel)) (hK.1.1 1 _ rfl).2 (pg_recv hK hP hL_so_i hf_so_i rfl) dX4_sayingsOn_35 ?_
          refine lv_aload_n hx hb dX4_sayingsOn_38 rfl (lv_at hl 2 rfl) ?_
          refine pg_get (C := RX4) (T := TX4) (N := 6) hx hb hts hi_X4 hown hK hP hL_lo hf_lo rfl 0 (by decide) (hts (.fieldLink RX4 10 "BarometerLeague" "weather" "LBarometerLeague$Weather;") (by decide +kernel)) (fun _ h9 => h9) rfl dX4_sayingsOn_39 ?_
          refine lv_iload_n hx hb dX4_sayingsOn_42 rfl (lv_at hl 1 rfl) ?_
          refine ro_V (As := [.ref we, .int (nI d2)]) (rest := [.int (nI i), .ref sy]) ⟨hx, hb, hml, hown, hts⟩ (m_X0_saysRain l g L f2 _ _ _ _ _ _ _ _ _ hL_so_i hf_so_i hL_we hf_we hL_ga hf_ga hL_ra hf_ra hrn hd) (cwV 2 hts gX4_sayingsOn_X0_saysRain rfl rfl rfl (by decide +kernel) ⟨Nat.le_of_ble_eq_true rfl, Nat.le_of_ble_eq_true rfl⟩) hK hP hL_so_i hf_so_i rfl rfl hl.1 rfl (Nat.le_of_ble_eq_true rfl) dX4_sayingsOn_43 ⟨Nat.zero_le _, Nat.zero_le _⟩ (fun r43 hr43 => ?_)
          have hr43 : r43 = b2i (sayB (kd i) (nu i) gl rn d2) := hr43
          subst hr43
          refine lv_if_eq (tgt := 53) hx hb dX4_sayingsOn_46 (by decide) (fun c46 => ?_) (fun c46 => ?_)
          · skip
            refine lv_iconst (v := (-1)) hx hb dX4_sayingsOn_53 (by decide) ?_
            refine pn_iast (j := i) hx hb hK hP hN hA hS hL_sy hf_sy rfl (by omega) (Nat.lt_of_lt_of_le (m := 100) (by omega) (by omega)) dX4_sayingsOn_54 (fun H locs hP hS => ?_)
            obtain ⟨f54, ef54⟩ : ∃ z, z = va_up f2 sy (eI g 8 (upd (mapN (fun j _ => truth (sayB (kd j) (nu j) gl rn d2)) sa i) i (-1))) := ⟨_, rfl⟩
            replace hP : PP g L f54 H := by rw [ef54]; exact hP
            have hf_lo : f54 lo = eO 5 [.ref we, .ref al, .ref rv, .int (nI d), .ref sy, .ref rt] := by rw [ef54, va_up_ne _ _ n_lo_sy]; exact hf_lo
            have hf_al : f54 al = eO 0 [.int mo, .ref ed, .int (nI n)] := by rw [ef54, va_up_ne _ _ n_al_sy]; exact hf_al
            have hf_we : f54 we = eO 4 [.ref ga, .ref ra] := by rw [ef54, va_up_ne _ _ n_we_sy]; exact hf_we
            have hf_ga : f54 ga = eI g 12 gl := by rw [ef54, va_up_ne _ _ n_ga_sy]; exact hf_ga
            have hf_ra : f54 ra = eZ g 12 rn := by rw [ef54, va_up_ne _ _ n_ra_sy]; exact hf_ra
            have hf_so_i : f54 (so i) = eO 1 [.int (kd i), .int (nu i)] := by rw [ef54, va_up_ne _ _ (ne_e hf_so_i hf_sy (by simp))]; exact hf_so_i
            have hf_ed : f54 ed = eQ g 10 el := by rw [ef54, va_up_ne _ _ (ne_e hf_ed hf_sy (by simp))]; exact hf_ed
            have hf_sy : f54 sy = eI g 8 (upd (mapN (fun j _ => truth (sayB (kd j) (nu j) gl rn d2)) sa i) i (-1)) := by rw [ef54]; exact va_up_self _ _ _
            replace hFr : Fr f f54 [sy] := by rw [ef54]; exact hFr.up (by simp)
            refine lv_iinc (v := nI (i + 1)) (lv' := [(2, .int (nI (i + 1))), (1, .int (nI d2)), (0, .ref lo)]) hx hb dX4_sayingsOn_55 hl (k := 0) rfl (nI_1 _) (by decide) rfl (fun ls hl => ?_)
            refine lv_goto (tgt := 2) hx hb dX4_sayingsOn_58 (by decide) ?_
            have hf_sy : f54 sy = eI g 8 (mapN (fun j _ => truth (sayB (kd j) (nu j) gl rn d2)) sa (i + 1)) := by rw [hf_sy, mapN_s (F := (fun j _ => truth (sayB (kd j) (nu j) gl rn d2))) (sg_f c46)]
            exact ih2 (i + 1) f54 H locs (by omega) (by omega) hf_sy hFr hP hS ls (lv_sub hl [0, 1, 2] rfl)
          · skip
            refine lv_iconst (v := 1) hx hb dX4_sayingsOn_49 (by decide) ?_
            refine lv_goto (tgt := 54) hx hb dX4_sayingsOn_50 (by decide) ?_
            refine pn_iast (j := i) hx hb hK hP hN hA hS hL_sy hf_sy rfl (by omega) (Nat.lt_of_lt_of_le (m := 100) (by omega) (by omega)) dX4_sayingsOn_54 (fun H locs hP hS => ?_)
            obtain ⟨f54, ef54⟩ : ∃ z, z = va_up f2 sy (eI g 8 (upd (mapN (fun j _ => truth (sayB (kd j) (nu j) gl rn d2)) sa i) i 1)) := ⟨_, rfl⟩
            replace hP : PP g L f54 H := by rw [ef54]; exact hP
            have hf_lo : f54 lo = eO 5 [.ref we, .ref al, .ref rv, .int (nI d), .ref sy, .ref rt] := by rw [ef54, va_up_ne _ _ n_lo_sy]; exact hf_lo
            have hf_al : f54 al = eO 0 [.int mo, .ref ed, .int (nI n)] := by rw [ef54, va_up_ne _ _ n_al_sy]; exact hf_al
            have hf_we : f54 we = eO 4 [.ref ga, .ref ra] := by rw [ef54, va_up_ne _ _ n_we_sy]; exact hf_we
            have hf_ga : f54 ga = eI g 12 gl := by rw [ef54, va_up_ne _ _ n_ga_sy]; exact hf_ga
            have hf_ra : f54 ra = eZ g 12 rn := by rw [ef54, va_up_ne _ _ n_ra_sy]; exact hf_ra
            have hf_so_i : f54 (so i) = eO 1 [.int (kd i), .int (nu i)] := by rw [ef54, va_up_ne _ _ (ne_e hf_so_i hf_sy (by simp))]; exact hf_so_i
            have hf_ed : f54 ed = eQ g 10 el := by rw [ef54, va_up_ne _ _ (ne_e hf_ed hf_sy (by simp))]; exact hf_ed
            have hf_sy : f54 sy = eI g 8 (upd (mapN (fun j _ => truth (sayB (kd j) (nu j) gl rn d2)) sa i) i 1) := by rw [ef54]; exact va_up_self _ _ _
            replace hFr : Fr f f54 [sy] := by rw [ef54]; exact hFr.up (by simp)
            refine lv_iinc (v := nI (i + 1)) (lv' := [(2, .int (nI (i + 1))), (1, .int (nI d2)), (0, .ref lo)]) hx hb dX4_sayingsOn_55 hl (k := 0) rfl (nI_1 _) (by decide) rfl (fun ls hl => ?_)
            refine lv_goto (tgt := 2) hx hb dX4_sayingsOn_58 (by decide) ?_
            have hf_sy : f54 sy = eI g 8 (mapN (fun j _ => truth (sayB (kd j) (nu j) gl rn d2)) sa (i + 1)) := by rw [hf_sy, mapN_s (F := (fun j _ => truth (sayB (kd j) (nu j) gl rn d2))) (sg_t c46)]
            exact ih2 (i + 1) f54 H locs (by omega) (by omega) hf_sy hFr hP hS ls (lv_sub hl [0, 1, 2] rfl)
  exact K2 _ 0 f _ _ (Nat.lt_succ_self _) (Nat.zero_le _) hf_sy hFr hP hS ls (lv_sub hl [0, 2, 1] rfl)

set_option maxHeartbeats 4000000 in
set_option maxRecDepth 100000 in
theorem m_X4_liveDay (l : Launch) (g : GG) (L : List Nat) (f : Nat → va_E) (sz : Nat) (hN : L.Nodup) (lo we al rv d sy rt ed n ga ra : Nat) (mo : Int32) (gl rn sa kd nu : Nat → Int32) (so : Nat → Nat) (el : Nat → Option Nat) (rw rp mm cap : Nat) (rpl : Nat → Option Nat) (ad aw : Nat → Nat) (vs : Nat → VV) (d2 : Nat) (hL_lo : lo ∈ L) (hf_lo : f lo = eO 5 [.ref we, .ref al, .ref rv, .int (nI d), .ref sy, .ref rt]) (hL_al : al ∈ L) (hf_al : f al = eO 0 [.int mo, .ref ed, .int (nI n)]) (hL_we : we ∈ L) (hf_we : f we = eO 4 [.ref ga, .ref ra]) (hL_ga : ga ∈ L) (hf_ga : f ga = eI g 12 gl) (hL_ra : ra ∈ L) (hf_ra : f ra = eZ g 12 rn) (hL_sy : sy ∈ L) (hf_sy : f sy = eI g 8 sa) (hL_rw : rw ∈ L) (hf_rw : f rw = eO 3 [.ref rp, .int (nI mm)]) (hL_rp : rp ∈ L) (hf_rp : f rp = eV g cap rpl) (hn : n ≤ 8) (hrn : ∀ k, k < 12 → ∃ b, rn k = b2i b) (hd : d2 < 2 ^ 30) (hSg : Sgs g L f n ed so el kd nu) (hcap : cap ≤ 20) (hm : mm ≤ cap) (hpl : ∀ v, v < cap → rpl v = some (ad v)) (hV : Vils g L f cap ad aw vs) (hD : Dst cap ad aw) (hsy : ∀ v, v < cap → sy ≠ aw v) : RW l g yX4_liveDay wsX4_liveDay 4 91 L f sz [.ref lo, .ref rw, .int (nI d2)] (fun r f2 => r = hitsL kd nu gl rn n mm d2 (sa, vs) ∧ f2 sy = eI g 8 (dayL kd nu gl rn n mm d2 (sa, vs)).1 ∧ Vils g L f2 cap ad aw (dayL kd nu gl rn n mm d2 (sa, vs)).2 ∧ FrL f f2 sy cap ad aw) := by
  refine RW.start (cc := cX4_liveDay) (maxL := 3) (ret := .int) (by decide +kernel) rfl (by simp [lg_sl, Value.category]) ?_
  intro p e s m args below meth c Q ls A hx hb hml hts hown hA hA2 hS hP hK hl hend
  have hl : lv_has ls 3 [(0, .ref lo), (1, .ref rw), (2, .int (nI d2))] := hl
  have hi_X4 : ∀ w ∈ u_ws RX4 TX4 6, w ∈ wsX4_liveDay := by decide +kernel
  have hFr : FrL f f sy cap ad aw := FrL.rf
  have n_lo_al : lo ≠ al := ne_e hf_lo hf_al (by simp)
  have n_lo_we : lo ≠ we := ne_e hf_lo hf_we (by simp)
  have n_lo_ga : lo ≠ ga := ne_e hf_lo hf_ga (by simp)
  have n_lo_ra : lo ≠ ra := ne_e hf_lo hf_ra (by simp)
  have n_lo_sy : lo ≠ sy := ne_e hf_lo hf_sy (by simp)
  have n_lo_rw : lo ≠ rw := ne_e hf_lo hf_rw (by simp)
  have n_lo_rp : lo ≠ rp := ne_e hf_lo hf_rp (by simp)
  have n_al_we : al ≠ we := ne_e hf_al hf_we (by simp)
  have n_al_ga : al ≠ ga := ne_e hf_al hf_ga (by simp)
  have n_al_ra : al ≠ ra := ne_e hf_al hf_ra (by simp)
  have n_al_sy : al ≠ sy := ne_e hf_al hf_sy (by simp)
  have n_al_rw : al ≠ rw := ne_e hf_al hf_rw (by simp)
  have n_al_rp : al ≠ rp := ne_e hf_al hf_rp (by simp)
  have n_we_ga : we ≠ ga := ne_e hf_we hf_ga (by simp)
  have n_we_ra : we ≠ ra := ne_e hf_we hf_ra (by simp)
  have n_we_sy : we ≠ sy := ne_e hf_we hf_sy (by simp)
  have n_we_rw : we ≠ rw := ne_e hf_we hf_rw (by simp)
  have n_we_rp : we ≠ rp := ne_e hf_we hf_rp (by simp)
  have n_ga_sy : ga ≠ sy := ne_e hf_ga hf_sy (by simp)
  have n_ga_rw : ga ≠ rw := ne_e hf_ga hf_rw (by simp)
  have n_ga_rp : ga ≠ rp := ne_e hf_ga hf_rp (by simp)
  have n_ra_sy : ra ≠ sy := ne_e hf_ra hf_sy (by simp)
  have n_ra_rw : ra ≠ rw := ne_e hf_ra hf_rw (by simp)
  have n_ra_rp : ra ≠ rp := ne_e hf_ra hf_rp (by simp)
  have n_sy_rw : sy ≠ rw := ne_e hf_sy hf_rw (by simp)
  have n_sy_rp : sy ≠ rp := ne_e hf_sy hf_rp (by simp)
  have n_rw_rp : rw ≠ rp := ne_e hf_rw hf_rp (by simp)
  have h0f_lo := hf_lo
  have h0f_al := hf_al
  have h0f_we := hf_we
  have h0f_ga := hf_ga
  have h0f_ra := hf_ra
  have h0f_sy := hf_sy
  have h0f_rw := hf_rw
  have h0f_rp := hf_rp
  have off_lo : Off cap ad aw lo := Off.of hV hf_lo (by simp) (by simp)
  have off_al : Off cap ad aw al := Off.of hV hf_al (by simp) (by simp)
  have off_we : Off cap ad aw we := Off.of hV hf_we (by simp) (by simp)
  have off_ga : Off cap ad aw ga := Off.of hV hf_ga (by simp) (by simp)
  have off_ra : Off cap ad aw ra := Off.of hV hf_ra (by simp) (by simp)
  have off_rw : Off cap ad aw rw := Off.of hV hf_rw (by simp) (by simp)
  have off_rp : Off cap ad aw rp := Off.of hV hf_rp (by simp) (by simp)
  have off_sy : Off cap ad aw sy := Off.ofI hV hf_sy hsy
  refine lv_aload_n hx hb dX4_liveDay_0 rfl (lv_at hl 1 rfl) ?_
  refine lv_aload_n hx hb dX4_liveDay_1 rfl (lv_at hl 0 rfl) ?_
  refine lv_iload_n hx hb dX4_liveDay_2 rfl (lv_at hl 2 rfl) ?_
  refine rf_V (As := [.int (nI d2)]) (rest := [.ref rw]) ⟨hx, hb, hml, hown, hts⟩ (m_X4_sayingsOn l g L f _ hN _ _ _ _ _ _ _ _ _ _ _ _ _ _ _ _ _ _ _ d2 hL_lo hf_lo hL_al hf_al hL_we hf_we hL_ga hf_ga hL_ra hf_ra hL_sy hf_sy hn hrn (by omega) hSg) (cwV 1 hts gX4_liveDay_X4_sayingsOn rfl rfl rfl (by decide +kernel) ⟨Nat.le_of_ble_eq_true rfl, Nat.le_of_ble_eq_true rfl⟩) hK hP hA hA2 hS hL_lo hf_lo rfl rfl hl.1 rfl (Nat.le_of_ble_eq_true rfl) dX4_liveDay_3 ⟨Nat.zero_le _, Nat.zero_le _⟩ (fun f3 H locs hr3 hP hS => ?_)
  obtain ⟨hc3_0, hw3⟩ := hr3
  have hSg := hSg.frI hw3 hf_sy
  have hV := hV.fr1 hw3 off_sy
  have hf_lo : f3 lo = eO 5 [.ref we, .ref al, .ref rv, .int (nI d), .ref sy, .ref rt] := hw3.get hf_lo (nm_c n_lo_sy (List.not_mem_nil))
  have hf_al : f3 al = eO 0 [.int mo, .ref ed, .int (nI n)] := hw3.get hf_al (nm_c n_al_sy (List.not_mem_nil))
  have hf_we : f3 we = eO 4 [.ref ga, .ref ra] := hw3.get hf_we (nm_c n_we_sy (List.not_mem_nil))
  have hf_ga : f3 ga = eI g 12 gl := hw3.get hf_ga (nm_c n_ga_sy (List.not_mem_nil))
  have hf_ra : f3 ra = eZ g 12 rn := hw3.get hf_ra (nm_c n_ra_sy (List.not_mem_nil))
  have hf_rw : f3 rw = eO 3 [.ref rp, .int (nI mm)] := hw3.get hf_rw (nm_c n_sy_rw.symm (List.not_mem_nil))
  have hf_rp : f3 rp = eV g cap rpl := hw3.get hf_rp (nm_c n_sy_rp.symm (List.not_mem_nil))
  have hf_sy : f3 sy = eI g 8 (saS kd nu gl rn n d2 sa) := hc3_0
  replace hFr : FrL f f3 sy cap ad aw := hFr.sy hw3
  refine lv_aload_n hx hb dX4_liveDay_6 rfl (lv_at hl 0 rfl) ?_
  refine pg_get (C := RX4) (T := TX4) (N := 6) hx hb hts hi_X4 hown hK hP hL_lo hf_lo rfl 0 (by decide) (hts (.fieldLink RX4 10 "BarometerLeague" "weather" "LBarometerLeague$Weather;") (by decide +kernel)) (fun _ h9 => h9) rfl dX4_liveDay_7 ?_
  refine lv_iload_n hx hb dX4_liveDay_10 rfl (lv_at hl 2 rfl) ?_
  refine ro_V (As := [.int (nI d2)]) (rest := [.ref sy, .ref rw]) ⟨hx, hb, hml, hown, hts⟩ (m_X3_rainsOn l g L f3 _ _ _ _ _ _ (d2 % 12) hL_we hf_we hL_ga hf_ga hL_ra hf_ra (dIx_n hd) hrn) (cwV 1 hts gX4_liveDay_X3_rainsOn rfl rfl rfl (by decide +kernel) ⟨Nat.le_of_ble_eq_true rfl, Nat.le_of_ble_eq_true rfl⟩) hK hP hL_we hf_we rfl rfl hl.1 rfl (Nat.le_of_ble_eq_true rfl) dX4_liveDay_11 ⟨Nat.zero_le _, Nat.zero_le _⟩ (fun r11 hr11 => ?_)
  have hr11 : r11 = b2i (rbB rn d2) := hr11.trans (rb_eq (hrn _ (by omega)))
  subst hr11
  refine rw_V (As := [.ref sy, .int (b2i (rbB rn d2))]) (rest := []) ⟨hx, hb, hml, hown, hts⟩ (m_X2_liveDay l g L f3 _ hN _ _ _ _ _ _ _ _ _ _ (rbB rn d2) hL_rw hf_rw hL_rp hf_rp hL_sy hf_sy hcap hm hpl hV hD hsy) (cwV 2 hts gX4_liveDay_X2_liveDay rfl rfl rfl (by decide +kernel) ⟨Nat.le_of_ble_eq_true rfl, Nat.le_of_ble_eq_true rfl⟩) hK hP hA hA2 hS hL_rw hf_rw rfl rfl hl.1 rfl (Nat.le_of_ble_eq_true rfl) dX4_liveDay_14 ⟨Nat.zero_le _, Nat.zero_le _⟩ (fun r14 f14 H locs hr14 hP hS => ?_)
  obtain ⟨hv14, hV, hw14⟩ := hr14
  have hf_lo : f14 lo = eO 5 [.ref we, .ref al, .ref rv, .int (nI d), .ref sy, .ref rt] := hw14.get hf_lo off_lo
  have hf_al : f14 al = eO 0 [.int mo, .ref ed, .int (nI n)] := hw14.get hf_al off_al
  have hf_we : f14 we = eO 4 [.ref ga, .ref ra] := hw14.get hf_we off_we
  have hf_ga : f14 ga = eI g 12 gl := hw14.get hf_ga off_ga
  have hf_ra : f14 ra = eZ g 12 rn := hw14.get hf_ra off_ra
  have hf_sy : f14 sy = eI g 8 (saS kd nu gl rn n d2 sa) := hw14.get hf_sy off_sy
  have hf_rw : f14 rw = eO 3 [.ref rp, .int (nI mm)] := hw14.get hf_rw off_rw
  have hf_rp : f14 rp = eV g cap rpl := hw14.get hf_rp off_rp
  replace hFr : FrL f f14 sy cap ad aw := hFr.vil hw14
  exact hend (r14) f14 _ _ _ _ (⟨hv14, hf_sy, hV, hFr⟩) hP hS rfl dX4_liveDay_17

set_option maxHeartbeats 4000000 in
set_option maxRecDepth 100000 in
theorem m_X4_liveDays (l : Launch) (g : GG) (L : List Nat) (f : Nat → va_E) (sz : Nat) (hN : L.Nodup) (lo we al rv d sy rt ed n ga ra : Nat) (mo : Int32) (gl rn sa kd nu : Nat → Int32) (so : Nat → Nat) (el : Nat → Option Nat) (rw rp mm cap : Nat) (rpl : Nat → Option Nat) (ad aw : Nat → Nat) (vs : Nat → VV) (k : Nat) (hL_lo : lo ∈ L) (hf_lo : f lo = eO 5 [.ref we, .ref al, .ref rv, .int (nI d), .ref sy, .ref rt]) (hL_al : al ∈ L) (hf_al : f al = eO 0 [.int mo, .ref ed, .int (nI n)]) (hL_we : we ∈ L) (hf_we : f we = eO 4 [.ref ga, .ref ra]) (hL_ga : ga ∈ L) (hf_ga : f ga = eI g 12 gl) (hL_ra : ra ∈ L) (hf_ra : f ra = eZ g 12 rn) (hL_sy : sy ∈ L) (hf_sy : f sy = eI g 8 sa) (hL_rw : rw ∈ L) (hf_rw : f rw = eO 3 [.ref rp, .int (nI mm)]) (hL_rp : rp ∈ L) (hf_rp : f rp = eV g cap rpl) (hn : n ≤ 8) (hrn : ∀ k, k < 12 → ∃ b, rn k = b2i b) (hd : d + k < 2 ^ 30) (hSg : Sgs g L f n ed so el kd nu) (hcap : cap ≤ 20) (hm : mm ≤ cap) (hpl : ∀ v, v < cap → rpl v = some (ad v)) (hV : Vils g L f cap ad aw vs) (hD : Dst cap ad aw) (hsy : ∀ v, v < cap → sy ≠ aw v) : RW l g yX4_liveDays wsX4_liveDays 5 113 L f sz [.ref lo, .ref rw, .int (nI k)] (fun r f2 => r = sumN (fun i => hitsL kd nu gl rn n mm (d + i) (itL kd nu gl rn n mm d (sa, vs) i)) k ∧ f2 sy = eI g 8 (itL kd nu gl rn n mm d (sa, vs) k).1 ∧ Vils g L f2 cap ad aw (itL kd nu gl rn n mm d (sa, vs) k).2 ∧ FrL f f2 sy cap ad aw) := by
  refine RW.start (cc := cX4_liveDays) (maxL := 5) (ret := .int) (by decide +kernel) rfl (by simp [lg_sl, Value.category]) ?_
  intro p e s m args below meth c Q ls A hx hb hml hts hown hA hA2 hS hP hK hl hend
  have hl : lv_has ls 5 [(0, .ref lo), (1, .ref rw), (2, .int (nI k))] := hl
  have hi_X4 : ∀ w ∈ u_ws RX4 TX4 6, w ∈ wsX4_liveDays := by decide +kernel
  have hFr : FrL f f sy cap ad aw := FrL.rf
  have n_lo_al : lo ≠ al := ne_e hf_lo hf_al (by simp)
  have n_lo_we : lo ≠ we := ne_e hf_lo hf_we (by simp)
  have n_lo_ga : lo ≠ ga := ne_e hf_lo hf_ga (by simp)
  have n_lo_ra : lo ≠ ra := ne_e hf_lo hf_ra (by simp)
  have n_lo_sy : lo ≠ sy := ne_e hf_lo hf_sy (by simp)
  have n_lo_rw : lo ≠ rw := ne_e hf_lo hf_rw (by simp)
  have n_lo_rp : lo ≠ rp := ne_e hf_lo hf_rp (by simp)
  have n_al_we : al ≠ we := ne_e hf_al hf_we (by simp)
  have n_al_ga : al ≠ ga := ne_e hf_al hf_ga (by simp)
  have n_al_ra : al ≠ ra := ne_e hf_al hf_ra (by simp)
  have n_al_sy : al ≠ sy := ne_e hf_al hf_sy (by simp)
  have n_al_rw : al ≠ rw := ne_e hf_al hf_rw (by simp)
  have n_al_rp : al ≠ rp := ne_e hf_al hf_rp (by simp)
  have n_we_ga : we ≠ ga := ne_e hf_we hf_ga (by simp)
  have n_we_ra : we ≠ ra := ne_e hf_we hf_ra (by simp)
  have n_we_sy : we ≠ sy := ne_e hf_we hf_sy (by simp)
  have n_we_rw : we ≠ rw := ne_e hf_we hf_rw (by simp)
  have n_we_rp : we ≠ rp := ne_e hf_we hf_rp (by simp)
  have n_ga_sy : ga ≠ sy := ne_e hf_ga hf_sy (by simp)
  have n_ga_rw : ga ≠ rw := ne_e hf_ga hf_rw (by simp)
  have n_ga_rp : ga ≠ rp := ne_e hf_ga hf_rp (by simp)
  have n_ra_sy : ra ≠ sy := ne_e hf_ra hf_sy (by simp)
  have n_ra_rw : ra ≠ rw := ne_e hf_ra hf_rw (by simp)
  have n_ra_rp : ra ≠ rp := ne_e hf_ra hf_rp (by simp)
  have n_sy_rw : sy ≠ rw := ne_e hf_sy hf_rw (by simp)
  have n_sy_rp : sy ≠ rp := ne_e hf_sy hf_rp (by simp)
  have n_rw_rp : rw ≠ rp := ne_e hf_rw hf_rp (by simp)
  have h0f_lo := hf_lo
  have h0f_al := hf_al
  have h0f_we := hf_we
  have h0f_ga := hf_ga
  have h0f_ra := hf_ra
  have h0f_sy := hf_sy
  have h0f_rw := hf_rw
  have h0f_rp := hf_rp
  have off_lo : Off cap ad aw lo := Off.of hV hf_lo (by simp) (by simp)
  have off_al : Off cap ad aw al := Off.of hV hf_al (by simp) (by simp)
  have off_we : Off cap ad aw we := Off.of hV hf_we (by simp) (by simp)
  have off_ga : Off cap ad aw ga := Off.of hV hf_ga (by simp) (by simp)
  have off_ra : Off cap ad aw ra := Off.of hV hf_ra (by simp) (by simp)
  have off_rw : Off cap ad aw rw := Off.of hV hf_rw (by simp) (by simp)
  have off_rp : Off cap ad aw rp := Off.of hV hf_rp (by simp) (by simp)
  have off_sy : Off cap ad aw sy := Off.ofI hV hf_sy hsy
  have h0_hSg := hSg
  have h0_hV := hV
  refine lv_iconst (v := 0) hx hb dX4_liveDays_0 (by decide) ?_
  refine lv_istore_n (lv' := [(3, .int 0), (0, .ref lo), (1, .ref rw), (2, .int (nI k))]) hx hb dX4_liveDays_1 rfl hl (by decide) rfl (fun ls hl => ?_)
  refine lv_iconst (v := 0) hx hb dX4_liveDays_2 (by decide) ?_
  refine lv_istore (lv' := [(4, .int 0), (3, .int 0), (0, .ref lo), (1, .ref rw), (2, .int (nI k))]) hx hb dX4_liveDays_3 hl (by decide) rfl (fun ls hl => ?_)
  have K5 : ∀ (n5 : Nat) (i : Nat) (acc : Int32) (f5 : Nat → va_E) (H : Heap) (locs : List Loc), k - i < n5 → i ≤ k → acc = sumN (fun i => hitsL kd nu gl rn n mm (d + i) (itL kd nu gl rn n mm d (sa, vs) i)) i → Vils g L f5 cap ad aw (itL kd nu gl rn n mm d (sa, vs) i).2 → f5 sy = eI g 8 ((itL kd nu gl rn n mm d (sa, vs) i).1) → FrL f f5 sy cap ad aw → PP g L f5 H → va_S A s.heap H locs → ∀ (ls : Array Slot), lv_has ls 5 [(4, .int (nI i)), (3, .int acc), (2, .int (nI k)), (1, .ref rw), (0, .ref lo)] → W p l e ({ frames := 5, cells := 0, slots := 0, locals := 113 } : Room) s m args below meth c H locs 0 0 Q (F0 m 5 ls []) := by
    intro n5
    induction n5 with
    | zero => intros; omega
    | succ n5 ih5 =>
      intro i acc f5 H locs hm5 hi ha hV hq5_0 hFr hP hS ls hl
      have hf_lo : f5 lo = eO 5 [.ref we, .ref al, .ref rv, .int (nI d), .ref sy, .ref rt] := hFr.get h0f_lo (n_lo_sy) off_lo
      have hf_al : f5 al = eO 0 [.int mo, .ref ed, .int (nI n)] := hFr.get h0f_al (n_al_sy) off_al
      have hf_we : f5 we = eO 4 [.ref ga, .ref ra] := hFr.get h0f_we (n_we_sy) off_we
      have hf_ga : f5 ga = eI g 12 gl := hFr.get h0f_ga (n_ga_sy) off_ga
      have hf_ra : f5 ra = eZ g 12 rn := hFr.get h0f_ra (n_ra_sy) off_ra
      have hf_rw : f5 rw = eO 3 [.ref rp, .int (nI mm)] := hFr.get h0f_rw (n_sy_rw.symm) off_rw
      have hf_rp : f5 rp = eV g cap rpl := hFr.get h0f_rp (n_sy_rp.symm) off_rp
      have hf_sy : f5 sy = eI g 8 ((itL kd nu gl rn n mm d (sa, vs) i).1) := hq5_0
      have hSg : Sgs g L f5 n ed so el kd nu := h0_hSg.frL h0_hV h0f_sy hFr
      refine lv_iload hx hb dX4_liveDays_5 (lv_at hl 0 rfl) ?_
      refine lv_iload_n hx hb dX4_liveDays_7 rfl (lv_at hl 2 rfl) ?_
      refine lv_icmp_ge (tgt := 32) hx hb dX4_liveDays_8 (by decide) (fun c8 => ?_) (fun c8 => ?_)
      · skip
        have c8 : k ≤ i := (nI_leI (a := k) (b := i) (by omega) (by omega)).mp (show nI k ≤ nI i from c8)
        refine lv_iload_n hx hb dX4_liveDays_32 rfl (lv_at hl 1 rfl) ?_
        have hni : i = k := by omega
        subst hni
        exact hend (acc) f5 _ _ _ _ (⟨ha, hf_sy, hV, hFr⟩) hP hS rfl dX4_liveDays_33
      · skip
        have c8 : ¬ k ≤ i := fun h => c8 ((nI_leI (a := k) (b := i) (by omega) (by omega)).mpr h)
        refine lv_iload_n hx hb dX4_liveDays_11 rfl (lv_at hl 1 rfl) ?_
        refine lv_aload_n hx hb dX4_liveDays_12 rfl (lv_at hl 4 rfl) ?_
        refine lv_aload_n hx hb dX4_liveDays_13 rfl (lv_at hl 3 rfl) ?_
        refine lv_aload_n hx hb dX4_liveDays_14 rfl (lv_at hl 4 rfl) ?_
        refine pg_get (C := RX4) (T := TX4) (N := 6) hx hb hts hi_X4 hown hK hP hL_lo hf_lo rfl 3 (by decide) (hts (.fieldLink RX4 165 "BarometerLeague" "day" "I") (by decide +kernel)) (fun _ h9 => h9) rfl dX4_liveDays_15 ?_
        refine lv_iload hx hb dX4_liveDays_18 (lv_at hl 0 rfl) ?_
        refine lv_iadd hx hb dX4_liveDays_20 ?_
        refine lv_topi (fun v20 ev20 => ?_)
        have ev20 : v20 = nI (d + i) := (ev20.trans (nat_add rfl rfl))
        subst ev20
        refine rw_V (As := [.ref rw, .int (nI (d + i))]) (rest := [.int acc]) ⟨hx, hb, hml, hown, hts⟩ (m_X4_liveDay l g L f5 _ hN _ _ _ _ _ _ _ _ _ _ _ _ _ _ _ _ _ _ _ _ _ _ _ _ _ _ _ (d + i) hL_lo hf_lo hL_al hf_al hL_we hf_we hL_ga hf_ga hL_ra hf_ra hL_sy hf_sy hL_rw hf_rw hL_rp hf_rp hn hrn (by omega) hSg hcap hm hpl hV hD hsy) (cwV 2 hts gX4_liveDays_X4_liveDay rfl rfl rfl (by decide +kernel) ⟨Nat.le_of_ble_eq_true rfl, Nat.le_of_ble_eq_true rfl⟩) hK hP hA hA2 hS hL_lo hf_lo rfl rfl hl.1 rfl (Nat.le_of_ble_eq_true rfl) dX4_liveDays_21 ⟨Nat.zero_le _, Nat.zero_le _⟩ (fun r21 f21 H locs hr21 hP hS => ?_)
        obtain ⟨hv21, hf_sy, hV, hw21⟩ := hr21
        have hf_lo : f21 lo = eO 5 [.ref we, .ref al, .ref rv, .int (nI d), .ref sy, .ref rt] := hw21.get hf_lo (n_lo_sy) off_lo
        have hf_al : f21 al = eO 0 [.int mo, .ref ed, .int (nI n)] := hw21.get hf_al (n_al_sy) off_al
        have hf_we : f21 we = eO 4 [.ref ga, .ref ra] := hw21.get hf_we (n_we_sy) off_we
        have hf_ga : f21 ga = eI g 12 gl := hw21.get hf_ga (n_ga_sy) off_ga
        have hf_ra : f21 ra = eZ g 12 rn := hw21.get hf_ra (n_ra_sy) off_ra
        have hf_rw : f21 rw = eO 3 [.ref rp, .int (nI mm)] := hw21.get hf_rw (n_sy_rw.symm) off_rw
        have hf_rp : f21 rp = eV g cap rpl := hw21.get hf_rp (n_sy_rp.symm) off_rp
        replace hFr : FrL f f21 sy cap ad aw := hFr.trans hw21
        have hf_sy : f21 sy = eI g 8 (itL kd nu gl rn n mm d (sa, vs) (i + 1)).1 := hf_sy
        have hV : Vils g L f21 cap ad aw (itL kd nu gl rn n mm d (sa, vs) (i + 1)).2 := hV
        refine lv_iadd hx hb dX4_liveDays_24 ?_
        refine lv_topi (fun v24 ev24 => ?_)
        refine lv_istore_n (lv' := [(3, .int v24), (4, .int (nI i)), (2, .int (nI k)), (1, .ref rw), (0, .ref lo)]) hx hb dX4_liveDays_25 rfl hl (by decide) rfl (fun ls hl => ?_)
        refine lv_iinc (v := nI (i + 1)) (lv' := [(4, .int (nI (i + 1))), (3, .int v24), (2, .int (nI k)), (1, .ref rw), (0, .ref lo)]) hx hb dX4_liveDays_26 hl (k := 1) rfl (nI_1 _) (by decide) rfl (fun ls hl => ?_)
        refine lv_goto (tgt := 5) hx hb dX4_liveDays_29 (by decide) ?_
        exact ih5 (i + 1) v24 f21 H locs (by omega) (by omega) (sumN_s ha (by rw [ev24, hv21])) (hV) hf_sy hFr hP hS ls (lv_sub hl [0, 1, 2, 3, 4] rfl)
  exact K5 _ 0 0 f _ _ (Nat.lt_succ_self _) (Nat.zero_le _) (rfl) (hV) hf_sy hFr hP hS ls (lv_sub hl [0, 1, 4, 3, 2] rfl)

set_option maxHeartbeats 4000000 in
set_option maxRecDepth 100000 in
theorem m_X4_countOver (l : Launch) (g : GG) (L : List Nat) (f : Nat → va_E) (sz : Nat) (hN : L.Nodup) (lo we al rv d sy rt ed n ga ra : Nat) (mo : Int32) (gl rn sa kd nu : Nat → Int32) (so : Nat → Nat) (el : Nat → Option Nat) (rw rp mm cap : Nat) (rpl : Nat → Option Nat) (ad aw : Nat → Nat) (vs : Nat → VV) (k d2 : Nat) (hL_lo : lo ∈ L) (hf_lo : f lo = eO 5 [.ref we, .ref al, .ref rv, .int (nI d), .ref sy, .ref rt]) (hL_al : al ∈ L) (hf_al : f al = eO 0 [.int mo, .ref ed, .int (nI n)]) (hL_we : we ∈ L) (hf_we : f we = eO 4 [.ref ga, .ref ra]) (hL_ga : ga ∈ L) (hf_ga : f ga = eI g 12 gl) (hL_ra : ra ∈ L) (hf_ra : f ra = eZ g 12 rn) (hL_sy : sy ∈ L) (hf_sy : f sy = eI g 8 sa) (hL_rw : rw ∈ L) (hf_rw : f rw = eO 3 [.ref rp, .int (nI mm)]) (hL_rp : rp ∈ L) (hf_rp : f rp = eV g cap rpl) (hn : n ≤ 8) (hrn : ∀ k, k < 12 → ∃ b, rn k = b2i b) (hd : d2 < 2 ^ 30) (hSg : Sgs g L f n ed so el kd nu) (hcap : cap ≤ 20) (hm : mm ≤ cap) (hpl : ∀ v, v < cap → rpl v = some (ad v)) (hV : Vils g L f cap ad aw vs) (hD : Dst cap ad aw) (hsy : ∀ v, v < cap → sy ≠ aw v) (hk : 3 ≤ k ∧ k ≤ 5) : RW l g yX4_countOver wsX4_countOver 4 90 L f sz [.ref lo, .ref rw, .int (nI k), .int (nI d2)] (fun r f2 => r = covL (saS kd nu gl rn n d2 sa) vs mm k ∧ f2 sy = eI g 8 (if k = 5 then (saS kd nu gl rn n d2 sa) else sa) ∧ Fr f f2 [sy]) := by
  refine RW.start (cc := cX4_countOver) (maxL := 4) (ret := .int) (by decide +kernel) rfl (by simp [lg_sl, Value.category]) ?_
  intro p e s m args below meth c Q ls A hx hb hml hts hown hA hA2 hS hP hK hl hend
  have hl : lv_has ls 4 [(0, .ref lo), (1, .ref rw), (2, .int (nI k)), (3, .int (nI d2))] := hl
  have hFr : Fr f f [sy] := Fr.rf
  have n_lo_al : lo ≠ al := ne_e hf_lo hf_al (by simp)
  have n_lo_we : lo ≠ we := ne_e hf_lo hf_we (by simp)
  have n_lo_ga : lo ≠ ga := ne_e hf_lo hf_ga (by simp)
  have n_lo_ra : lo ≠ ra := ne_e hf_lo hf_ra (by simp)
  have n_lo_sy : lo ≠ sy := ne_e hf_lo hf_sy (by simp)
  have n_lo_rw : lo ≠ rw := ne_e hf_lo hf_rw (by simp)
  have n_lo_rp : lo ≠ rp := ne_e hf_lo hf_rp (by simp)
  have n_al_we : al ≠ we := ne_e hf_al hf_we (by simp)
  have n_al_ga : al ≠ ga := ne_e hf_al hf_ga (by simp)
  have n_al_ra : al ≠ ra := ne_e hf_al hf_ra (by simp)
  have n_al_sy : al ≠ sy := ne_e hf_al hf_sy (by simp)
  have n_al_rw : al ≠ rw := ne_e hf_al hf_rw (by simp)
  have n_al_rp : al ≠ rp := ne_e hf_al hf_rp (by simp)
  have n_we_ga : we ≠ ga := ne_e hf_we hf_ga (by simp)
  have n_we_ra : we ≠ ra := ne_e hf_we hf_ra (by simp)
  have n_we_sy : we ≠ sy := ne_e hf_we hf_sy (by simp)
  have n_we_rw : we ≠ rw := ne_e hf_we hf_rw (by simp)
  have n_we_rp : we ≠ rp := ne_e hf_we hf_rp (by simp)
  have n_ga_sy : ga ≠ sy := ne_e hf_ga hf_sy (by simp)
  have n_ga_rw : ga ≠ rw := ne_e hf_ga hf_rw (by simp)
  have n_ga_rp : ga ≠ rp := ne_e hf_ga hf_rp (by simp)
  have n_ra_sy : ra ≠ sy := ne_e hf_ra hf_sy (by simp)
  have n_ra_rw : ra ≠ rw := ne_e hf_ra hf_rw (by simp)
  have n_ra_rp : ra ≠ rp := ne_e hf_ra hf_rp (by simp)
  have n_sy_rw : sy ≠ rw := ne_e hf_sy hf_rw (by simp)
  have n_sy_rp : sy ≠ rp := ne_e hf_sy hf_rp (by simp)
  have n_rw_rp : rw ≠ rp := ne_e hf_rw hf_rp (by simp)
  have h0f_lo := hf_lo
  have h0f_al := hf_al
  have h0f_we := hf_we
  have h0f_ga := hf_ga
  have h0f_ra := hf_ra
  have h0f_sy := hf_sy
  have h0f_rw := hf_rw
  have h0f_rp := hf_rp
  have off_sy : Off cap ad aw sy := Off.ofI hV hf_sy hsy
  refine lv_iload_n hx hb dX4_countOver_0 rfl (lv_at hl 2 rfl) ?_
  obtain rfl | rfl | rfl : k = 3 ∨ k = 4 ∨ k = 5 := by omega
  · skip
    refine lv_lookup (off := 27) (tgt := 28) hx hb dX4_countOver_1 (by decide) (by decide) (by decide) ?_
    refine lv_aload_n hx hb dX4_countOver_28 rfl (lv_at hl 1 rfl) ?_
    refine ro_V (As := []) (rest := []) ⟨hx, hb, hml, hown, hts⟩ (m_X2_allPoints l g L f _ _ _ _ _ _ _ _ hL_rw hf_rw hL_rp hf_rp hcap hm hpl hV) (cwV 0 hts gX4_countOver_X2_allPoints rfl rfl rfl (by decide +kernel) ⟨Nat.le_of_ble_eq_true rfl, Nat.le_of_ble_eq_true rfl⟩) hK hP hL_rw hf_rw rfl rfl hl.1 rfl (Nat.le_of_ble_eq_true rfl) dX4_countOver_29 ⟨Nat.zero_le _, Nat.zero_le _⟩ (fun r29 hr29 => ?_)
    have hr29 : r29 = sumN (fun v => (vs v).2.1) mm := hr29
    subst hr29
    exact hend (sumN (fun v => (vs v).2.1) mm) f _ _ _ _ (⟨rfl, hf_sy, hFr⟩) hP hS rfl dX4_countOver_32
  · skip
    refine lv_lookup (off := 32) (tgt := 33) hx hb dX4_countOver_1 (by decide) (by decide) (by decide) ?_
    refine lv_aload_n hx hb dX4_countOver_33 rfl (lv_at hl 1 rfl) ?_
    refine ro_V (As := []) (rest := []) ⟨hx, hb, hml, hown, hts⟩ (m_X2_allCoins l g L f _ _ _ _ _ _ _ _ hL_rw hf_rw hL_rp hf_rp hcap hm hpl hV) (cwV 0 hts gX4_countOver_X2_allCoins rfl rfl rfl (by decide +kernel) ⟨Nat.le_of_ble_eq_true rfl, Nat.le_of_ble_eq_true rfl⟩) hK hP hL_rw hf_rw rfl rfl hl.1 rfl (Nat.le_of_ble_eq_true rfl) dX4_countOver_34 ⟨Nat.zero_le _, Nat.zero_le _⟩ (fun r34 hr34 => ?_)
    have hr34 : r34 = sumN (fun v => (vs v).2.2.1) mm := hr34
    subst hr34
    exact hend (sumN (fun v => (vs v).2.2.1) mm) f _ _ _ _ (⟨rfl, hf_sy, hFr⟩) hP hS rfl dX4_countOver_37
  · skip
    refine lv_lookup (off := 37) (tgt := 38) hx hb dX4_countOver_1 (by decide) (by decide) (by decide) ?_
    refine lv_aload_n hx hb dX4_countOver_38 rfl (lv_at hl 1 rfl) ?_
    refine lv_aload_n hx hb dX4_countOver_39 rfl (lv_at hl 0 rfl) ?_
    refine lv_iload_n hx hb dX4_countOver_40 rfl (lv_at hl 3 rfl) ?_
    refine rf_V (As := [.int (nI d2)]) (rest := [.ref rw]) ⟨hx, hb, hml, hown, hts⟩ (m_X4_sayingsOn l g L f _ hN _ _ _ _ _ _ _ _ _ _ _ _ _ _ _ _ _ _ _ d2 hL_lo hf_lo hL_al hf_al hL_we hf_we hL_ga hf_ga hL_ra hf_ra hL_sy hf_sy hn hrn (by omega) hSg) (cwV 1 hts gX4_countOver_X4_sayingsOn rfl rfl rfl (by decide +kernel) ⟨Nat.le_of_ble_eq_true rfl, Nat.le_of_ble_eq_true rfl⟩) hK hP hA hA2 hS hL_lo hf_lo rfl rfl hl.1 rfl (Nat.le_of_ble_eq_true rfl) dX4_countOver_41 ⟨Nat.zero_le _, Nat.zero_le _⟩ (fun f41 H locs hr41 hP hS => ?_)
    obtain ⟨hc41_0, hw41⟩ := hr41
    have hSg := hSg.frI hw41 hf_sy
    have hV := hV.fr1 hw41 off_sy
    have hf_lo : f41 lo = eO 5 [.ref we, .ref al, .ref rv, .int (nI d), .ref sy, .ref rt] := hw41.get hf_lo (nm_c n_lo_sy (List.not_mem_nil))
    have hf_al : f41 al = eO 0 [.int mo, .ref ed, .int (nI n)] := hw41.get hf_al (nm_c n_al_sy (List.not_mem_nil))
    have hf_we : f41 we = eO 4 [.ref ga, .ref ra] := hw41.get hf_we (nm_c n_we_sy (List.not_mem_nil))
    have hf_ga : f41 ga = eI g 12 gl := hw41.get hf_ga (nm_c n_ga_sy (List.not_mem_nil))
    have hf_ra : f41 ra = eZ g 12 rn := hw41.get hf_ra (nm_c n_ra_sy (List.not_mem_nil))
    have hf_rw : f41 rw = eO 3 [.ref rp, .int (nI mm)] := hw41.get hf_rw (nm_c n_sy_rw.symm (List.not_mem_nil))
    have hf_rp : f41 rp = eV g cap rpl := hw41.get hf_rp (nm_c n_sy_rp.symm (List.not_mem_nil))
    have hf_sy : f41 sy = eI g 8 (saS kd nu gl rn n d2 sa) := hc41_0
    replace hFr : Fr f f41 [sy] := hFr.tr hw41 (by simp)
    refine ro_V (As := [.ref sy]) (rest := []) ⟨hx, hb, hml, hown, hts⟩ (m_X2_guessingRain l g L f41 _ _ _ _ _ _ _ _ _ _ hL_rw hf_rw hL_rp hf_rp hL_sy hf_sy hcap hm hpl hV) (cwV 1 hts gX4_countOver_X2_guessingRain rfl rfl rfl (by decide +kernel) ⟨Nat.le_of_ble_eq_true rfl, Nat.le_of_ble_eq_true rfl⟩) hK hP hL_rw hf_rw rfl rfl hl.1 rfl (Nat.le_of_ble_eq_true rfl) dX4_countOver_44 ⟨Nat.zero_le _, Nat.zero_le _⟩ (fun r44 hr44 => ?_)
    have hr44 : r44 = sumN (fun v => b2i (decide (0 < leadV (saS kd nu gl rn n d2 sa) (vs v)))) mm := hr44
    subst hr44
    exact hend (sumN (fun v => b2i (decide (0 < leadV (saS kd nu gl rn n d2 sa) (vs v)))) mm) f41 _ _ _ _ (⟨rfl, hf_sy, hFr⟩) hP hS rfl dX4_countOver_47
