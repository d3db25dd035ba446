set_option maxHeartbeats 4000000 in
set_option maxRecDepth 100000 in
theorem m_X6_share (l : Launch) (g : GG) (L : List Nat) (f : Nat → va_E) (sz : Nat) (hN : L.Nodup) (mh mg mr mk mn ms ah n nv : Nat) (th : Int32) (nw np nc nr nwt d : Nat) (ht : Int32) (co wt : Nat → Int32) (v x : Int32) (hL_mh : mh ∈ L) (hf_mh : f mh = eO 7 [.int th, .ref mg, .ref mr, .int (nI n), .ref mk, .ref mn, .int (nI nv), .ref ms, .ref nw, .ref ah]) (hL_nw : nw ∈ L) (hf_nw : f nw = eO 6 [.int (nI d), .int ht, .ref np, .ref nc, .ref nr, .ref nwt]) (hL_nc : nc ∈ L) (hf_nc : f nc = eI g 6 co) (hL_nwt : nwt ∈ L) (hf_nwt : f nwt = eI g 48 wt) (hn : n ≤ 8) (hnv : nv ≤ 6) : RW l g yX6_share wsX6_share 2 43 L f sz [.ref mh, .int v, .int x] (fun r f2 => (((inB v nv && inB x nv) = false ∧ f2 mh = eO 7 [.int 1, .ref mg, .ref mr, .int (nI n), .ref mk, .ref mn, .int (nI nv), .ref ms, .ref nw, .ref ah] ∧ f2 nc = eI g 6 co ∧ f2 nwt = eI g 48 wt) ∨ ((inB v nv && inB x nv) = true ∧ v = x ∧ f2 mh = eO 7 [.int 2, .ref mg, .ref mr, .int (nI n), .ref mk, .ref mn, .int (nI nv), .ref ms, .ref nw, .ref ah] ∧ f2 nc = eI g 6 co ∧ f2 nwt = eI g 48 wt) ∨ (∃ u w, u < nv ∧ v = nI u ∧ w < nv ∧ x = nI w ∧ u ≠ w ∧ co u < 5 ∧ f2 mh = eO 7 [.int 3, .ref mg, .ref mr, .int (nI n), .ref mk, .ref mn, .int (nI nv), .ref ms, .ref nw, .ref ah] ∧ f2 nc = eI g 6 co ∧ f2 nwt = eI g 48 wt) ∨ ∃ u w, u < nv ∧ v = nI u ∧ w < nv ∧ x = nI w ∧ u ≠ w ∧ ¬ co u < 5 ∧ r = co u - 5 ∧ f2 mh = eO 7 [.int 0, .ref mg, .ref mr, .int (nI n), .ref mk, .ref mn, .int (nI nv), .ref ms, .ref nw, .ref ah] ∧ f2 nc = eI g 6 (upd (upd co u (co u - 5)) w (co w + 5)) ∧ f2 nwt = eI g 48 (rowN (fun j x => (x + wt (8 * w + j)) / 2) wt u n)) ∧ Fr f f2 [mh, nc, nwt]) := by
  refine RW.start (cc := cX6_share) (maxL := 4) (ret := .int) (by decide +kernel) rfl (by simp [lg_sl, Value.category]) ?_
  intro p e s m args below meth c Q ls A hx hb hml hts hown hA hA2 hS hP hK hl hend
  have hl : lv_has ls 4 [(0, .ref mh), (1, .int v), (2, .int x)] := hl
  have hi_X5 : ∀ w ∈ u_ws RX5 TX5 6, w ∈ wsX6_share := by decide +kernel
  have hi_X6 : ∀ w ∈ u_ws RX6 TX6 10, w ∈ wsX6_share := by decide +kernel
  have hFr : Fr f f [mh, nc, nwt] := Fr.rf
  have n_mh_nw : mh ≠ nw := ne_e hf_mh hf_nw (by simp)
  have n_mh_nc : mh ≠ nc := ne_e hf_mh hf_nc (by simp)
  have n_mh_nwt : mh ≠ nwt := ne_e hf_mh hf_nwt (by simp)
  have n_nw_nc : nw ≠ nc := ne_e hf_nw hf_nc (by simp)
  have n_nw_nwt : nw ≠ nwt := ne_e hf_nw hf_nwt (by simp)
  have n_nc_nwt : nc ≠ nwt := ne_e hf_nc hf_nwt (by simp)
  have h0f_mh := hf_mh
  have h0f_nw := hf_nw
  have h0f_nc := hf_nc
  have h0f_nwt := hf_nwt
  refine lv_aload_n hx hb dX6_share_0 rfl (lv_at hl 0 rfl) ?_
  refine lv_iconst (v := 0) hx hb dX6_share_1 (by decide) ?_
  refine pg_put (ty := .int) (C := RX6) (T := TX6) (N := 10) hx hb hts hi_X6 tyX6 tyX6_ok nmX6 hown hK hP hN hA hS hL_mh hf_mh rfl 0 (by decide) (hts (.fieldLink RX6 41 "BarometerLeagueModel" "thrown" "I") (by decide +kernel)) (fun _ h9 => h9) rfl (by decide +kernel) rfl rfl (Nat.le_of_ble_eq_true rfl) dX6_share_2 (fun H locs hP hS => ?_)
  obtain ⟨f2, ef2⟩ : ∃ z, z = va_up f mh (eO 7 [.int 0, .ref mg, .ref mr, .int (nI n), .ref mk, .ref mn, .int (nI nv), .ref ms, .ref nw, .ref ah]) := ⟨_, rfl⟩
  replace hP : PP g L f2 H := by rw [ef2]; exact hP
  have hf_nw : f2 nw = eO 6 [.int (nI d), .int ht, .ref np, .ref nc, .ref nr, .ref nwt] := by rw [ef2, va_up_ne _ _ n_mh_nw.symm]; exact hf_nw
  have hf_nc : f2 nc = eI g 6 co := by rw [ef2, va_up_ne _ _ n_mh_nc.symm]; exact hf_nc
  have hf_nwt : f2 nwt = eI g 48 wt := by rw [ef2, va_up_ne _ _ n_mh_nwt.symm]; exact hf_nwt
  have hf_mh : f2 mh = eO 7 [.int 0, .ref mg, .ref mr, .int (nI n), .ref mk, .ref mn, .int (nI nv), .ref ms, .ref nw, .ref ah] := by rw [ef2]; exact va_up_self _ _ _
  replace hFr : Fr f f2 [mh, nc, nwt] := by rw [ef2]; exact hFr.up (by simp)
  refine lv_aload_n hx hb dX6_share_5 rfl (lv_at hl 0 rfl) ?_
  refine lv_iload_n hx hb dX6_share_6 rfl (lv_at hl 1 rfl) ?_
  refine ro_V (As := [.int v]) (rest := []) ⟨hx, hb, hml, hown, hts⟩ (m_X6_isVillage l g L f2 _ _ _ _ _ _ _ _ _ _ _ v hL_mh hf_mh (by assumption) (by assumption)) (cwV 1 hts gX6_share_X6_isVillage rfl rfl rfl (by decide +kernel) ⟨Nat.le_of_ble_eq_true rfl, Nat.le_of_ble_eq_true rfl⟩) hK hP hL_mh hf_mh rfl rfl hl.1 rfl (Nat.le_of_ble_eq_true rfl) dX6_share_7 ⟨Nat.zero_le _, Nat.zero_le _⟩ (fun r7 hr7 => ?_)
  have hr7 : r7 = b2i (inB v nv) := hr7
  subst hr7
  refine lv_if_eq (tgt := 21) hx hb dX6_share_10 (by decide) (fun c10 => ?_) (fun c10 => ?_)
  · skip
    refine lv_aload_n hx hb dX6_share_21 rfl (lv_at hl 0 rfl) ?_
    refine lv_iconst (v := 1) hx hb dX6_share_22 (by decide) ?_
    refine rw_V (As := [.int 1]) (rest := []) ⟨hx, hb, hml, hown, hts⟩ (m_X6_no l g L f2 _ hN _ _ _ _ _ _ _ _ _ _ _ _ hL_mh hf_mh) (cwV 1 hts gX6_share_X6_no rfl rfl rfl (by decide +kernel) ⟨Nat.le_of_ble_eq_true rfl, Nat.le_of_ble_eq_true rfl⟩) hK hP hA hA2 hS hL_mh hf_mh rfl rfl hl.1 rfl (Nat.le_of_ble_eq_true rfl) dX6_share_23 ⟨Nat.zero_le _, Nat.zero_le _⟩ (fun r23 f23 H locs hr23 hP hS => ?_)
    obtain ⟨hv23, hc23_0, hw23⟩ := hr23
    have hf_nw : f23 nw = eO 6 [.int (nI d), .int ht, .ref np, .ref nc, .ref nr, .ref nwt] := hw23.get hf_nw (nm_c n_mh_nw.symm (List.not_mem_nil))
    have hf_nc : f23 nc = eI g 6 co := hw23.get hf_nc (nm_c n_mh_nc.symm (List.not_mem_nil))
    have hf_nwt : f23 nwt = eI g 48 wt := hw23.get hf_nwt (nm_c n_mh_nwt.symm (List.not_mem_nil))
    have hf_mh : f23 mh = eO 7 [.int 1, .ref mg, .ref mr, .int (nI n), .ref mk, .ref mn, .int (nI nv), .ref ms, .ref nw, .ref ah] := hc23_0
    replace hFr : Fr f f23 [mh, nc, nwt] := hFr.tr hw23 (by simp)
    subst hv23
    exact hend (0) f23 _ _ _ _ (⟨Or.inl ⟨by rw [z_f c10]; rfl, hf_mh, hf_nc, hf_nwt⟩, hFr⟩) hP hS rfl dX6_share_26
  · skip
    refine lv_aload_n hx hb dX6_share_13 rfl (lv_at hl 0 rfl) ?_
    refine lv_iload_n hx hb dX6_share_14 rfl (lv_at hl 2 rfl) ?_
    refine ro_V (As := [.int x]) (rest := []) ⟨hx, hb, hml, hown, hts⟩ (m_X6_isVillage l g L f2 _ _ _ _ _ _ _ _ _ _ _ x hL_mh hf_mh (by assumption) (by assumption)) (cwV 1 hts gX6_share_X6_isVillage rfl rfl rfl (by decide +kernel) ⟨Nat.le_of_ble_eq_true rfl, Nat.le_of_ble_eq_true rfl⟩) hK hP hL_mh hf_mh rfl rfl hl.1 rfl (Nat.le_of_ble_eq_true rfl) dX6_share_15 ⟨Nat.zero_le _, Nat.zero_le _⟩ (fun r15 hr15 => ?_)
    have hr15 : r15 = b2i (inB x nv) := hr15
    subst hr15
    refine lv_if_ne (tgt := 27) hx hb dX6_share_18 (by decide) (fun c18 => ?_) (fun c18 => ?_)
    · skip
      obtain ⟨u, hu, rfl⟩ := inB_of (nz_t c10) (by omega)
      obtain ⟨w, hw, rfl⟩ := inB_of (nz_t c18) (by omega)
      refine lv_iload_n hx hb dX6_share_27 rfl (lv_at hl 1 rfl) ?_
      refine lv_iload_n hx hb dX6_share_28 rfl (lv_at hl 2 rfl) ?_
      refine lv_icmp_ne (tgt := 38) hx hb dX6_share_29 (by decide) (fun c29 => ?_) (fun c29 => ?_)
      · skip
        have c29 : ¬ u = w := fun h => c29 ((nI_eq (a := u) (b := w) (by omega) (by omega)).mpr h)
        refine lv_aload_n hx hb dX6_share_38 rfl (lv_at hl 0 rfl) ?_
        refine pg_get (C := RX6) (T := TX6) (N := 10) hx hb hts hi_X6 hown hK hP hL_mh hf_mh rfl 8 (by decide) (hts (.fieldLink RX6 28 "BarometerLeagueModel" "now" "LBarometerLeagueModel$State;") (by decide +kernel)) (fun _ h9 => h9) rfl dX6_share_39 ?_
        refine pg_getN (C := RX5) (T := TX5) (N := 6) hx hb hts hi_X5 hown hK hP hL_nw hf_nw rfl 3 (by decide) (hK.nest 10 rfl) (fun _ h9 => h9) rfl dX6_share_42 ?_
        refine lv_iload_n hx hb dX6_share_45 rfl (lv_at hl 1 rfl) ?_
        refine pn_iald (j := u) hx hb hK hP hL_nc hf_nc rfl (by omega) (Nat.lt_of_lt_of_le (m := 100) (by omega) (by omega)) dX6_share_46 ?_
        refine lv_iconst (v := 5) hx hb dX6_share_47 (by decide) ?_
        refine lv_icmp_ge (tgt := 57) hx hb dX6_share_48 (by decide) (fun c48 => ?_) (fun c48 => ?_)
        · skip
          refine lv_aload_n hx hb dX6_share_57 rfl (lv_at hl 0 rfl) ?_
          refine pg_get (C := RX6) (T := TX6) (N := 10) hx hb hts hi_X6 hown hK hP hL_mh hf_mh rfl 8 (by decide) (hts (.fieldLink RX6 28 "BarometerLeagueModel" "now" "LBarometerLeagueModel$State;") (by decide +kernel)) (fun _ h9 => h9) rfl dX6_share_58 ?_
          refine pg_getN (C := RX5) (T := TX5) (N := 6) hx hb hts hi_X5 hown hK hP hL_nw hf_nw rfl 3 (by decide) (hK.nest 10 rfl) (fun _ h9 => h9) rfl dX6_share_61 ?_
          refine lv_iload_n hx hb dX6_share_64 rfl (lv_at hl 1 rfl) ?_
          refine lv_dup2_11 hx hb dX6_share_65 rfl rfl ?_
          refine pn_iald (j := u) hx hb hK hP hL_nc hf_nc rfl (by omega) (Nat.lt_of_lt_of_le (m := 100) (by omega) (by omega)) dX6_share_66 ?_
          refine lv_iconst (v := 5) hx hb dX6_share_67 (by decide) ?_
          refine lv_isub hx hb dX6_share_68 ?_
          refine lv_topi (fun v68 ev68 => ?_)
          refine pn_iast (j := u) hx hb hK hP hN hA hS hL_nc hf_nc rfl (by omega) (Nat.lt_of_lt_of_le (m := 100) (by omega) (by omega)) dX6_share_69 (fun H locs hP hS => ?_)
          obtain ⟨f69, ef69⟩ : ∃ z, z = va_up f2 nc (eI g 6 (upd co u v68)) := ⟨_, rfl⟩
          replace hP : PP g L f69 H := by rw [ef69]; exact hP
          have hf_mh : f69 mh = eO 7 [.int 0, .ref mg, .ref mr, .int (nI n), .ref mk, .ref mn, .int (nI nv), .ref ms, .ref nw, .ref ah] := by rw [ef69, va_up_ne _ _ n_mh_nc]; exact hf_mh
          have hf_nw : f69 nw = eO 6 [.int (nI d), .int ht, .ref np, .ref nc, .ref nr, .ref nwt] := by rw [ef69, va_up_ne _ _ n_nw_nc]; exact hf_nw
          have hf_nwt : f69 nwt = eI g 48 wt := by rw [ef69, va_up_ne _ _ n_nc_nwt.symm]; exact hf_nwt
          have hf_nc : f69 nc = eI g 6 (upd co u v68) := by rw [ef69]; exact va_up_self _ _ _
          replace hFr : Fr f f69 [mh, nc, nwt] := by rw [ef69]; exact hFr.up (by simp)
          refine lv_aload_n hx hb dX6_share_70 rfl (lv_at hl 0 rfl) ?_
          refine pg_get (C := RX6) (T := TX6) (N := 10) hx hb hts hi_X6 hown hK hP hL_mh hf_mh rfl 8 (by decide) (hts (.fieldLink RX6 28 "BarometerLeagueModel" "now" "LBarometerLeagueModel$State;") (by decide +kernel)) (fun _ h9 => h9) rfl dX6_share_71 ?_
          refine pg_getN (C := RX5) (T := TX5) (N := 6) hx hb hts hi_X5 hown hK hP hL_nw hf_nw rfl 3 (by decide) (hK.nest 10 rfl) (fun _ h9 => h9) rfl dX6_share_74 ?_
          refine lv_iload_n hx hb dX6_share_77 rfl (lv_at hl 2 rfl) ?_
          refine lv_dup2_11 hx hb dX6_share_78 rfl rfl ?_
          refine pn_iald (j := w) hx hb hK hP hL_nc hf_nc rfl (by omega) (Nat.lt_of_lt_of_le (m := 100) (by omega) (by omega)) dX6_share_79 ?_
          refine lv_iconst (v := 5) hx hb dX6_share_80 (by decide) ?_
          refine lv_iadd hx hb dX6_share_81 ?_
          refine lv_topi (fun v81 ev81 => ?_)
          refine pn_iast (j := w) hx hb hK hP hN hA hS hL_nc hf_nc rfl (by omega) (Nat.lt_of_lt_of_le (m := 100) (by omega) (by omega)) dX6_share_82 (fun H locs hP hS => ?_)
          obtain ⟨f82, ef82⟩ : ∃ z, z = va_up f69 nc (eI g 6 (upd (upd co u v68) w v81)) := ⟨_, rfl⟩
          replace hP : PP g L f82 H := by rw [ef82]; exact hP
          have hf_mh : f82 mh = eO 7 [.int 0, .ref mg, .ref mr, .int (nI n), .ref mk, .ref mn, .int (nI nv), .ref ms, .ref nw, .ref ah] := by rw [ef82, va_up_ne _ _ n_mh_nc]; exact hf_mh
          have hf_nw : f82 nw = eO 6 [.int (nI d), .int ht, .ref np, .ref nc, .ref nr, .ref nwt] := by rw [ef82, va_up_ne _ _ n_nw_nc]; exact hf_nw
          have hf_nwt : f82 nwt = eI g 48 wt := by rw [ef82, va_up_ne _ _ n_nc_nwt.symm]; exact hf_nwt
          have hf_nc : f82 nc = eI g 6 (upd (upd co u v68) w v81) := by rw [ef82]; exact va_up_self _ _ _
          replace hFr : Fr f f82 [mh, nc, nwt] := by rw [ef82]; exact hFr.up (by simp)
          refine lv_iconst (v := 0) hx hb dX6_share_83 (by decide) ?_
          refine lv_istore_n (lv' := [(3, .int 0), (0, .ref mh), (1, .int (nI u)), (2, .int (nI w))]) hx hb dX6_share_84 rfl hl (by decide) rfl (fun ls hl => ?_)
          have hf_nc : f82 nc = eI g 6 (upd (upd co u (co u - 5)) w (co w + 5)) := by rw [hf_nc, ev81, ev68, upd_ne (fun q => c29 q.symm)]
          have hf_nwt : f82 nwt = eI g 48 (rowN (fun j x => (x + wt (8 * w + j)) / 2) wt u 0) := by rw [hf_nwt, rowN_0]
          have K85 : ∀ (n85 : Nat) (i : Nat) (f85 : Nat → va_E) (H : Heap) (locs : List Loc), n - i < n85 → i ≤ n → f85 mh = eO 7 [.int 0, .ref mg, .ref mr, .int (nI n), .ref mk, .ref mn, .int (nI nv), .ref ms, .ref nw, .ref ah] → f85 nc = eI g 6 (upd (upd co u (co u - 5)) w (co w + 5)) → f85 nwt = eI g 48 (rowN (fun j x => (x + wt (8 * w + j)) / 2) wt u i) → Fr f f85 [mh, nc, nwt] → PP g L f85 H → va_S A s.heap H locs → ∀ (ls : Array Slot), lv_has ls 4 [(3, .int (nI i)), (2, .int (nI w)), (1, .int (nI u)), (0, .ref mh)] → W p l e ({ frames := 2, cells := 0, slots := 0, locals := 43 } : Room) s m args below meth c H locs 0 0 Q (F0 m 85 ls []) := by
            intro n85
            induction n85 with
            | zero => intros; omega
            | succ n85 ih85 =>
              intro i f85 H locs hm85 hi hq85_0 hq85_1 hq85_2 hFr hP hS ls hl
              have hf_nw : f85 nw = eO 6 [.int (nI d), .int ht, .ref np, .ref nc, .ref nr, .ref nwt] := hFr.get h0f_nw (nm_c n_mh_nw.symm (nm_c n_nw_nc (nm_c n_nw_nwt (List.not_mem_nil))))
              have hf_mh : f85 mh = eO 7 [.int 0, .ref mg, .ref mr, .int (nI n), .ref mk, .ref mn, .int (nI nv), .ref ms, .ref nw, .ref ah] := hq85_0
              have hf_nc : f85 nc = eI g 6 (upd (upd co u (co u - 5)) w (co w + 5)) := hq85_1
              have hf_nwt : f85 nwt = eI g 48 (rowN (fun j x => (x + wt (8 * w + j)) / 2) wt u i) := hq85_2
              refine lv_iload_n hx hb dX6_share_85 rfl (lv_at hl 0 rfl) ?_
              refine lv_aload_n hx hb dX6_share_86 rfl (lv_at hl 3 rfl) ?_
              refine pg_get (C := RX6) (T := TX6) (N := 10) hx hb hts hi_X6 hown hK hP hL_mh hf_mh rfl 3 (by decide) (hts (.fieldLink RX6 45 "BarometerLeagueModel" "signs" "I") (by decide +kernel)) (fun _ h9 => h9) rfl dX6_share_87 ?_
              refine lv_icmp_ge (tgt := 144) hx hb dX6_share_90 (by decide) (fun c90 => ?_) (fun c90 => ?_)
              · skip
                have c90 : n ≤ i := (nI_leI (a := n) (b := i) (by omega) (by omega)).mp (show nI n ≤ nI i from c90)
                refine lv_aload_n hx hb dX6_share_144 rfl (lv_at hl 3 rfl) ?_
                refine pg_get (C := RX6) (T := TX6) (N := 10) hx hb hts hi_X6 hown hK hP hL_mh hf_mh rfl 8 (by decide) (hts (.fieldLink RX6 28 "BarometerLeagueModel" "now" "LBarometerLeagueModel$State;") (by decide +kernel)) (fun _ h9 => h9) rfl dX6_share_145 ?_
                refine pg_getN (C := RX5) (T := TX5) (N := 6) hx hb hts hi_X5 hown hK hP hL_nw hf_nw rfl 3 (by decide) (hK.nest 10 rfl) (fun _ h9 => h9) rfl dX6_share_148 ?_
                refine lv_iload_n hx hb dX6_share_151 rfl (lv_at hl 2 rfl) ?_
                refine pn_iald (j := u) hx hb hK hP hL_nc hf_nc rfl (by omega) (Nat.lt_of_lt_of_le (m := 100) (by omega) (by omega)) dX6_share_152 ?_
                exact hend ((upd (upd co u (co u - 5)) w (co w + 5)) u) f85 _ _ _ _ (⟨Or.inr (Or.inr (Or.inr ⟨u, w, hu, rfl, hw, rfl, c29, Int32.not_lt.mpr c48, by rw [upd_ne c29, upd_eq], hf_mh, hf_nc, by rw [hf_nwt, show i = n from (by omega)]⟩)), hFr⟩) hP hS rfl dX6_share_153
              · skip
                have c90 : ¬ n ≤ i := fun h => c90 ((nI_leI (a := n) (b := i) (by omega) (by omega)).mpr h)
                refine lv_aload_n hx hb dX6_share_93 rfl (lv_at hl 3 rfl) ?_
                refine pg_get (C := RX6) (T := TX6) (N := 10) hx hb hts hi_X6 hown hK hP hL_mh hf_mh rfl 8 (by decide) (hts (.fieldLink RX6 28 "BarometerLeagueModel" "now" "LBarometerLeagueModel$State;") (by decide +kernel)) (fun _ h9 => h9) rfl dX6_share_94 ?_
                refine pg_getN (C := RX5) (T := TX5) (N := 6) hx hb hts hi_X5 hown hK hP hL_nw hf_nw rfl 5 (by decide) (hK.nest 12 rfl) (fun _ h9 => h9) rfl dX6_share_97 ?_
                refine lv_bipush (v := 8) hx hb dX6_share_100 (by decide) ?_
                refine lv_iload_n hx hb dX6_share_102 rfl (lv_at hl 2 rfl) ?_
                refine lv_imul hx hb dX6_share_103 ?_
                refine lv_topi (fun v103 ev103 => ?_)
                refine lv_iload_n hx hb dX6_share_104 rfl (lv_at hl 0 rfl) ?_
                refine lv_iadd hx hb dX6_share_105 ?_
                refine lv_topi (fun v105 ev105 => ?_)
                refine lv_aload_n hx hb dX6_share_106 rfl (lv_at hl 3 rfl) ?_
                refine pg_get (C := RX6) (T := TX6) (N := 10) hx hb hts hi_X6 hown hK hP hL_mh hf_mh rfl 8 (by decide) (hts (.fieldLink RX6 28 "BarometerLeagueModel" "now" "LBarometerLeagueModel$State;") (by decide +kernel)) (fun _ h9 => h9) rfl dX6_share_107 ?_
                refine pg_getN (C := RX5) (T := TX5) (N := 6) hx hb hts hi_X5 hown hK hP hL_nw hf_nw rfl 5 (by decide) (hK.nest 12 rfl) (fun _ h9 => h9) rfl dX6_share_110 ?_
                refine lv_bipush (v := 8) hx hb dX6_share_113 (by decide) ?_
                refine lv_iload_n hx hb dX6_share_115 rfl (lv_at hl 2 rfl) ?_
                refine lv_imul hx hb dX6_share_116 ?_
                refine lv_topi (fun v116 ev116 => ?_)
                refine lv_iload_n hx hb dX6_share_117 rfl (lv_at hl 0 rfl) ?_
                refine lv_iadd hx hb dX6_share_118 ?_
                refine lv_topi (fun v118 ev118 => ?_)
                refine pn_iald (j := 8 * u + i) hx hb hK hP hL_nwt hf_nwt (ev118.trans (nat_add (ev116.trans (nat_mul rfl rfl)) rfl)) (by omega) (Nat.lt_of_lt_of_le (m := 100) (by omega) (by omega)) dX6_share_119 ?_
                refine lv_aload_n hx hb dX6_share_120 rfl (lv_at hl 3 rfl) ?_
                refine pg_get (C := RX6) (T := TX6) (N := 10) hx hb hts hi_X6 hown hK hP hL_mh hf_mh rfl 8 (by decide) (hts (.fieldLink RX6 28 "BarometerLeagueModel" "now" "LBarometerLeagueModel$State;") (by decide +kernel)) (fun _ h9 => h9) rfl dX6_share_121 ?_
                refine pg_getN (C := RX5) (T := TX5) (N := 6) hx hb hts hi_X5 hown hK hP hL_nw hf_nw rfl 5 (by decide) (hK.nest 12 rfl) (fun _ h9 => h9) rfl dX6_share_124 ?_
                refine lv_bipush (v := 8) hx hb dX6_share_127 (by decide) ?_
                refine lv_iload_n hx hb dX6_share_129 rfl (lv_at hl 1 rfl) ?_
                refine lv_imul hx hb dX6_share_130 ?_
                refine lv_topi (fun v130 ev130 => ?_)
                refine lv_iload_n hx hb dX6_share_131 rfl (lv_at hl 0 rfl) ?_
                refine lv_iadd hx hb dX6_share_132 ?_
                refine lv_topi (fun v132 ev132 => ?_)
                refine pn_iald (j := 8 * w + i) hx hb hK hP hL_nwt hf_nwt (ev132.trans (nat_add (ev130.trans (nat_mul rfl rfl)) rfl)) (by omega) (Nat.lt_of_lt_of_le (m := 100) (by omega) (by omega)) dX6_share_133 ?_
                refine lv_iadd hx hb dX6_share_134 ?_
                refine lv_topi (fun v134 ev134 => ?_)
                refine lv_iconst (v := 2) hx hb dX6_share_135 (by decide) ?_
                refine lv_idiv hx hb dX6_share_136 (by decide) ?_
                refine lv_topi (fun v136 ev136 => ?_)
                refine pn_iast (j := 8 * u + i) hx hb hK hP hN hA hS hL_nwt hf_nwt (ev105.trans (nat_add (ev103.trans (nat_mul rfl rfl)) rfl)) (by omega) (Nat.lt_of_lt_of_le (m := 100) (by omega) (by omega)) dX6_share_137 (fun H locs hP hS => ?_)
                obtain ⟨f137, ef137⟩ : ∃ z, z = va_up f85 nwt (eI g 48 (upd (rowN (fun j x => (x + wt (8 * w + j)) / 2) wt u i) (8 * u + i) v136)) := ⟨_, rfl⟩
                replace hP : PP g L f137 H := by rw [ef137]; exact hP
                have hf_mh : f137 mh = eO 7 [.int 0, .ref mg, .ref mr, .int (nI n), .ref mk, .ref mn, .int (nI nv), .ref ms, .ref nw, .ref ah] := by rw [ef137, va_up_ne _ _ n_mh_nwt]; exact hf_mh
                have hf_nw : f137 nw = eO 6 [.int (nI d), .int ht, .ref np, .ref nc, .ref nr, .ref nwt] := by rw [ef137, va_up_ne _ _ n_nw_nwt]; exact hf_nw
                have hf_nc : f137 nc = eI g 6 (upd (upd co u (co u - 5)) w (co w + 5)) := by rw [ef137, va_up_ne _ _ n_nc_nwt]; exact hf_nc
                have hf_nwt : f137 nwt = eI g 48 (upd (rowN (fun j x => (x + wt (8 * w + j)) / 2) wt u i) (8 * u + i) v136) := by rw [ef137]; exact va_up_self _ _ _
                replace hFr : Fr f f137 [mh, nc, nwt] := by rw [ef137]; exact hFr.up (by simp)
                refine lv_iinc (v := nI (i + 1)) (lv' := [(3, .int (nI (i + 1))), (2, .int (nI w)), (1, .int (nI u)), (0, .ref mh)]) hx hb dX6_share_138 hl (k := 0) rfl (nI_1 _) (by decide) rfl (fun ls hl => ?_)
                refine lv_goto (tgt := 85) hx hb dX6_share_141 (by decide) ?_
                have hf_nwt : f137 nwt = eI g 48 (rowN (fun j x => (x + wt (8 * w + j)) / 2) wt u (i + 1)) := by rw [hf_nwt, rowN_s (F := (fun j x => (x + wt (8 * w + j)) / 2)) (by omega) (by rw [ev136, ev134, rowN_at _ _ _ _ (by omega), rowN_ne _ _ c29 (by omega)])]
                exact ih85 (i + 1) f137 H locs (by omega) (by omega) hf_mh hf_nc hf_nwt hFr hP hS ls (lv_sub hl [0, 1, 2, 3] rfl)
          exact K85 _ 0 f82 _ _ (Nat.lt_succ_self _) (Nat.zero_le _) hf_mh hf_nc hf_nwt hFr hP hS ls (lv_sub hl [0, 3, 2, 1] rfl)
        · skip
          refine lv_aload_n hx hb dX6_share_51 rfl (lv_at hl 0 rfl) ?_
          refine lv_iconst (v := 3) hx hb dX6_share_52 (by decide) ?_
          refine rw_V (As := [.int 3]) (rest := []) ⟨hx, hb, hml, hown, hts⟩ (m_X6_no l g L f2 _ hN _ _ _ _ _ _ _ _ _ _ _ _ hL_mh hf_mh) (cwV 1 hts gX6_share_X6_no rfl rfl rfl (by decide +kernel) ⟨Nat.le_of_ble_eq_true rfl, Nat.le_of_ble_eq_true rfl⟩) hK hP hA hA2 hS hL_mh hf_mh rfl rfl hl.1 rfl (Nat.le_of_ble_eq_true rfl) dX6_share_53 ⟨Nat.zero_le _, Nat.zero_le _⟩ (fun r53 f53 H locs hr53 hP hS => ?_)
          obtain ⟨hv53, hc53_0, hw53⟩ := hr53
          have hf_nw : f53 nw = eO 6 [.int (nI d), .int ht, .ref np, .ref nc, .ref nr, .ref nwt] := hw53.get hf_nw (nm_c n_mh_nw.symm (List.not_mem_nil))
          have hf_nc : f53 nc = eI g 6 co := hw53.get hf_nc (nm_c n_mh_nc.symm (List.not_mem_nil))
          have hf_nwt : f53 nwt = eI g 48 wt := hw53.get hf_nwt (nm_c n_mh_nwt.symm (List.not_mem_nil))
          have hf_mh : f53 mh = eO 7 [.int 3, .ref mg, .ref mr, .int (nI n), .ref mk, .ref mn, .int (nI nv), .ref ms, .ref nw, .ref ah] := hc53_0
          replace hFr : Fr f f53 [mh, nc, nwt] := hFr.tr hw53 (by simp)
          subst hv53
          exact hend (0) f53 _ _ _ _ (⟨Or.inr (Or.inr (Or.inl ⟨u, w, hu, rfl, hw, rfl, c29, Int32.not_le.mp c48, hf_mh, hf_nc, hf_nwt⟩)), hFr⟩) hP hS rfl dX6_share_56
      · skip
        have c29 : u = w := (nI_eq (a := u) (b := w) (by omega) (by omega)).mp (show nI u = nI w from c29)
        refine lv_aload_n hx hb dX6_share_32 rfl (lv_at hl 0 rfl) ?_
        refine lv_iconst (v := 2) hx hb dX6_share_33 (by decide) ?_
        refine rw_V (As := [.int 2]) (rest := []) ⟨hx, hb, hml, hown, hts⟩ (m_X6_no l g L f2 _ hN _ _ _ _ _ _ _ _ _ _ _ _ hL_mh hf_mh) (cwV 1 hts gX6_share_X6_no rfl rfl rfl (by decide +kernel) ⟨Nat.le_of_ble_eq_true rfl, Nat.le_of_ble_eq_true rfl⟩) hK hP hA hA2 hS hL_mh hf_mh rfl rfl hl.1 rfl (Nat.le_of_ble_eq_true rfl) dX6_share_34 ⟨Nat.zero_le _, Nat.zero_le _⟩ (fun r34 f34 H locs hr34 hP hS => ?_)
        obtain ⟨hv34, hc34_0, hw34⟩ := hr34
        have hf_nw : f34 nw = eO 6 [.int (nI d), .int ht, .ref np, .ref nc, .ref nr, .ref nwt] := hw34.get hf_nw (nm_c n_mh_nw.symm (List.not_mem_nil))
        have hf_nc : f34 nc = eI g 6 co := hw34.get hf_nc (nm_c n_mh_nc.symm (List.not_mem_nil))
        have hf_nwt : f34 nwt = eI g 48 wt := hw34.get hf_nwt (nm_c n_mh_nwt.symm (List.not_mem_nil))
        have hf_mh : f34 mh = eO 7 [.int 2, .ref mg, .ref mr, .int (nI n), .ref mk, .ref mn, .int (nI nv), .ref ms, .ref nw, .ref ah] := hc34_0
        replace hFr : Fr f f34 [mh, nc, nwt] := hFr.tr hw34 (by simp)
        subst hv34
        exact hend (0) f34 _ _ _ _ (⟨Or.inr (Or.inl ⟨by rw [inB_nI hu (by omega), inB_nI hw (by omega)]; rfl, by rw [c29], hf_mh, hf_nc, hf_nwt⟩), hFr⟩) hP hS rfl dX6_share_37
    · skip
      refine lv_aload_n hx hb dX6_share_21 rfl (lv_at hl 0 rfl) ?_
      refine lv_iconst (v := 1) hx hb dX6_share_22 (by decide) ?_
      refine rw_V (As := [.int 1]) (rest := []) ⟨hx, hb, hml, hown, hts⟩ (m_X6_no l g L f2 _ hN _ _ _ _ _ _ _ _ _ _ _ _ hL_mh hf_mh) (cwV 1 hts gX6_share_X6_no rfl rfl rfl (by decide +kernel) ⟨Nat.le_of_ble_eq_true rfl, Nat.le_of_ble_eq_true rfl⟩) hK hP hA hA2 hS hL_mh hf_mh rfl rfl hl.1 rfl (Nat.le_of_ble_eq_true rfl) dX6_share_23 ⟨Nat.zero_le _, Nat.zero_le _⟩ (fun r23 f23 H locs hr23 hP hS => ?_)
      obtain ⟨hv23, hc23_0, hw23⟩ := hr23
      have hf_nw : f23 nw = eO 6 [.int (nI d), .int ht, .ref np, .ref nc, .ref nr, .ref nwt] := hw23.get hf_nw (nm_c n_mh_nw.symm (List.not_mem_nil))
      have hf_nc : f23 nc = eI g 6 co := hw23.get hf_nc (nm_c n_mh_nc.symm (List.not_mem_nil))
      have hf_nwt : f23 nwt = eI g 48 wt := hw23.get hf_nwt (nm_c n_mh_nwt.symm (List.not_mem_nil))
      have hf_mh : f23 mh = eO 7 [.int 1, .ref mg, .ref mr, .int (nI n), .ref mk, .ref mn, .int (nI nv), .ref ms, .ref nw, .ref ah] := hc23_0
      replace hFr : Fr f f23 [mh, nc, nwt] := hFr.tr hw23 (by simp)
      subst hv23
      exact hend (0) f23 _ _ _ _ (⟨Or.inl ⟨by rw [z_f c18, Bool.and_false], hf_mh, hf_nc, hf_nwt⟩, hFr⟩) hP hS rfl dX6_share_26

set_option maxHeartbeats 4000000 in
set_option maxRecDepth 100000 in
theorem m_X6_at (l : Launch) (g : GG) (L : List Nat) (f : Nat → va_E) (sz : Nat) (hN : L.Nodup) (mh mg mr mk mn ms ah n nv : Nat) (th : Int32) (nw np nc nr nwt d : Nat) (ht : Int32) (pt co : Nat → Int32) (q : Int32) (hL_mh : mh ∈ L) (hf_mh : f mh = eO 7 [.int th, .ref mg, .ref mr, .int (nI n), .ref mk, .ref mn, .int (nI nv), .ref ms, .ref nw, .ref ah]) (hL_nw : nw ∈ L) (hf_nw : f nw = eO 6 [.int (nI d), .int ht, .ref np, .ref nc, .ref nr, .ref nwt]) (hL_np : np ∈ L) (hf_np : f np = eI g 6 pt) (hL_nc : nc ∈ L) (hf_nc : f nc = eI g 6 co) (hnv : nv ≤ 6) : RW l g yX6_at wsX6_at 2 45 L f sz [.ref mh, .int q] (fun r f2 => ((∃ i, i < nv ∧ r = nI i ∧ placeM pt co nv i = q ∧ (∀ j, j < i → placeM pt co nv j ≠ q) ∧ f2 mh = eO 7 [.int 0, .ref mg, .ref mr, .int (nI n), .ref mk, .ref mn, .int (nI nv), .ref ms, .ref nw, .ref ah]) ∨ ((∀ j, j < nv → placeM pt co nv j ≠ q) ∧ f2 mh = eO 7 [.int 1, .ref mg, .ref mr, .int (nI n), .ref mk, .ref mn, .int (nI nv), .ref ms, .ref nw, .ref ah])) ∧ Fr f f2 [mh]) := by
  refine RW.start (cc := cX6_at) (maxL := 3) (ret := .int) (by decide +kernel) rfl (by simp [lg_sl, Value.category]) ?_
  intro p e s m args below meth c Q ls A hx hb hml hts hown hA hA2 hS hP hK hl hend
  have hl : lv_has ls 3 [(0, .ref mh), (1, .int q)] := hl
  have hi_X6 : ∀ w ∈ u_ws RX6 TX6 10, w ∈ wsX6_at := by decide +kernel
  have hFr : Fr f f [mh] := Fr.rf
  have n_mh_nw : mh ≠ nw := ne_e hf_mh hf_nw (by simp)
  have n_mh_np : mh ≠ np := ne_e hf_mh hf_np (by simp)
  have n_mh_nc : mh ≠ nc := ne_e hf_mh hf_nc (by simp)
  have n_nw_np : nw ≠ np := ne_e hf_nw hf_np (by simp)
  have n_nw_nc : nw ≠ nc := ne_e hf_nw hf_nc (by simp)
  have h0f_mh := hf_mh
  have h0f_nw := hf_nw
  have h0f_np := hf_np
  have h0f_nc := hf_nc
  refine lv_aload_n hx hb dX6_at_0 rfl (lv_at hl 0 rfl) ?_
  refine lv_iconst (v := 0) hx hb dX6_at_1 (by decide) ?_
  refine pg_put (ty := .int) (C := RX6) (T := TX6) (N := 10) hx hb hts hi_X6 tyX6 tyX6_ok nmX6 hown hK hP hN hA hS hL_mh hf_mh rfl 0 (by decide) (hts (.fieldLink RX6 41 "BarometerLeagueModel" "thrown" "I") (by decide +kernel)) (fun _ h9 => h9) rfl (by decide +kernel) rfl rfl (Nat.le_of_ble_eq_true rfl) dX6_at_2 (fun H locs hP hS => ?_)
  obtain ⟨f2, ef2⟩ : ∃ z, z = va_up f mh (eO 7 [.int 0, .ref mg, .ref mr, .int (nI n), .ref mk, .ref mn, .int (nI nv), .ref ms, .ref nw, .ref ah]) := ⟨_, rfl⟩
  replace hP : PP g L f2 H := by rw [ef2]; exact hP
  have hf_nw : f2 nw = eO 6 [.int (nI d), .int ht, .ref np, .ref nc, .ref nr, .ref nwt] := by rw [ef2, va_up_ne _ _ n_mh_nw.symm]; exact hf_nw
  have hf_np : f2 np = eI g 6 pt := by rw [ef2, va_up_ne _ _ n_mh_np.symm]; exact hf_np
  have hf_nc : f2 nc = eI g 6 co := by rw [ef2, va_up_ne _ _ n_mh_nc.symm]; exact hf_nc
  have hf_mh : f2 mh = eO 7 [.int 0, .ref mg, .ref mr, .int (nI n), .ref mk, .ref mn, .int (nI nv), .ref ms, .ref nw, .ref ah] := by rw [ef2]; exact va_up_self _ _ _
  replace hFr : Fr f f2 [mh] := by rw [ef2]; exact hFr.up (by simp)
  refine lv_iconst (v := 0) hx hb dX6_at_5 (by decide) ?_
  refine lv_istore_n (lv' := [(2, .int 0), (0, .ref mh), (1, .int q)]) hx hb dX6_at_6 rfl hl (by decide) rfl (fun ls hl => ?_)
  have K7 : ∀ (n7 : Nat) (i : Nat), nv - i < n7 → i ≤ nv → (∀ j, j < i → placeM pt co nv j ≠ q) → ∀ (ls : Array Slot), lv_has ls 3 [(2, .int (nI i)), (1, .int q), (0, .ref mh)] → W p l e ({ frames := 2, cells := 0, slots := 0, locals := 45 } : Room) s m args below meth c H locs 0 0 Q (F0 m 7 ls []) := by
    intro n7
    induction n7 with
    | zero => intros; omega
    | succ n7 ih7 =>
      intro i hm7 hi ha ls hl
      refine lv_iload_n hx hb dX6_at_7 rfl (lv_at hl 0 rfl) ?_
      refine lv_aload_n hx hb dX6_at_8 rfl (lv_at hl 2 rfl) ?_
      refine pg_get (C := RX6) (T := TX6) (N := 10) hx hb hts hi_X6 hown hK hP hL_mh hf_mh rfl 6 (by decide) (hts (.fieldLink RX6 52 "BarometerLeagueModel" "villages" "I") (by decide +kernel)) (fun _ h9 => h9) rfl dX6_at_9 ?_
      refine lv_icmp_ge (tgt := 32) hx hb dX6_at_12 (by decide) (fun c12 => ?_) (fun c12 => ?_)
      · skip
        have c12 : nv ≤ i := (nI_leI (a := nv) (b := i) (by omega) (by omega)).mp (show nI nv ≤ nI i from c12)
        refine lv_aload_n hx hb dX6_at_32 rfl (lv_at hl 2 rfl) ?_
        refine lv_iconst (v := 1) hx hb dX6_at_33 (by decide) ?_
        refine rw_V (As := [.int 1]) (rest := []) ⟨hx, hb, hml, hown, hts⟩ (m_X6_no l g L f2 _ hN _ _ _ _ _ _ _ _ _ _ _ _ hL_mh hf_mh) (cwV 1 hts gX6_at_X6_no rfl rfl rfl (by decide +kernel) ⟨Nat.le_of_ble_eq_true rfl, Nat.le_of_ble_eq_true rfl⟩) hK hP hA hA2 hS hL_mh hf_mh rfl rfl hl.1 rfl (Nat.le_of_ble_eq_true rfl) dX6_at_34 ⟨Nat.zero_le _, Nat.zero_le _⟩ (fun r34 f34 H locs hr34 hP hS => ?_)
        obtain ⟨hv34, hc34_0, hw34⟩ := hr34
        have hf_nw : f34 nw = eO 6 [.int (nI d), .int ht, .ref np, .ref nc, .ref nr, .ref nwt] := hw34.get hf_nw (nm_c n_mh_nw.symm (List.not_mem_nil))
        have hf_np : f34 np = eI g 6 pt := hw34.get hf_np (nm_c n_mh_np.symm (List.not_mem_nil))
        have hf_nc : f34 nc = eI g 6 co := hw34.get hf_nc (nm_c n_mh_nc.symm (List.not_mem_nil))
        have hf_mh : f34 mh = eO 7 [.int 1, .ref mg, .ref mr, .int (nI n), .ref mk, .ref mn, .int (nI nv), .ref ms, .ref nw, .ref ah] := hc34_0
        replace hFr : Fr f f34 [mh] := hFr.tr hw34 (by simp)
        subst hv34
        exact hend (0) f34 _ _ _ _ (⟨Or.inr ⟨fun j hj => ha j (by omega), hf_mh⟩, hFr⟩) hP hS rfl dX6_at_37
      · skip
        have c12 : ¬ nv ≤ i := fun h => c12 ((nI_leI (a := nv) (b := i) (by omega) (by omega)).mpr h)
        refine lv_aload_n hx hb dX6_at_15 rfl (lv_at hl 2 rfl) ?_
        refine lv_iload_n hx hb dX6_at_16 rfl (lv_at hl 0 rfl) ?_
        refine ro_V (As := [.int (nI i)]) (rest := []) ⟨hx, hb, hml, hown, hts⟩ (m_X6_placeOf l g L f2 _ _ _ _ _ _ _ _ _ _ _ _ _ _ _ _ _ _ _ i hL_mh hf_mh hL_nw hf_nw hL_np hf_np hL_nc hf_nc hnv (by omega)) (cwV 1 hts gX6_at_X6_placeOf rfl rfl rfl (by decide +kernel) ⟨Nat.le_of_ble_eq_true rfl, Nat.le_of_ble_eq_true rfl⟩) hK hP hL_mh hf_mh rfl rfl hl.1 rfl (Nat.le_of_ble_eq_true rfl) dX6_at_17 ⟨Nat.zero_le _, Nat.zero_le _⟩ (fun r17 hr17 => ?_)
        have hr17 : r17 = placeM pt co nv i := hr17
        subst hr17
        refine lv_iload_n hx hb dX6_at_20 rfl (lv_at hl 1 rfl) ?_
        refine lv_icmp_ne (tgt := 26) hx hb dX6_at_21 (by decide) (fun c21 => ?_) (fun c21 => ?_)
        · skip
          refine lv_iinc (v := nI (i + 1)) (lv' := [(2, .int (nI (i + 1))), (1, .int q), (0, .ref mh)]) hx hb dX6_at_26 hl (k := 0) rfl (nI_1 _) (by decide) rfl (fun ls hl => ?_)
          refine lv_goto (tgt := 7) hx hb dX6_at_29 (by decide) ?_
          exact ih7 (i + 1) (by omega) (by omega) (fun j hj => (Nat.lt_or_ge j i).elim (ha j) (fun z => by rw [show j = i from (by omega)]; exact c21)) ls (lv_sub hl [0, 1, 2] rfl)
        · skip
          refine lv_iload_n hx hb dX6_at_24 rfl (lv_at hl 0 rfl) ?_
          exact hend (nI i) f2 _ _ _ _ (⟨Or.inl ⟨i, by omega, rfl, c21, ha, hf_mh⟩, hFr⟩) hP hS rfl dX6_at_25
  exact K7 _ 0 (Nat.lt_succ_self _) (Nat.zero_le _) (fun j hj => absurd hj (Nat.not_lt_zero j)) ls (lv_sub hl [0, 2, 1] rfl)

set_option maxHeartbeats 4000000 in
set_option maxRecDepth 100000 in
theorem m_X6_pass_ (l : Launch) (g : GG) (L : List Nat) (f : Nat → va_E) (sz : Nat) (hN : L.Nodup) (mh mg mr mk mn ms ah n nv : Nat) (th : Int32) (gl rn kd nu sd : Nat → Int32) (nw np nc nr nwt d : Nat) (ht : Int32) (pt co ro wt : Nat → Int32) (x : Int32) (hL_mh : mh ∈ L) (hf_mh : f mh = eO 7 [.int th, .ref mg, .ref mr, .int (nI n), .ref mk, .ref mn, .int (nI nv), .ref ms, .ref nw, .ref ah]) (hL_mg : mg ∈ L) (hf_mg : f mg = eI g 12 gl) (hL_mr : mr ∈ L) (hf_mr : f mr = eI g 12 rn) (hL_mk : mk ∈ L) (hf_mk : f mk = eI g 8 kd) (hL_mn : mn ∈ L) (hf_mn : f mn = eI g 8 nu) (hL_ms : ms ∈ L) (hf_ms : f ms = eI g 8 sd) (hL_nw : nw ∈ L) (hf_nw : f nw = eO 6 [.int (nI d), .int ht, .ref np, .ref nc, .ref nr, .ref nwt]) (hL_np : np ∈ L) (hf_np : f np = eI g 6 pt) (hL_nc : nc ∈ L) (hf_nc : f nc = eI g 6 co) (hL_nr : nr ∈ L) (hf_nr : f nr = eI g 6 ro) (hL_nwt : nwt ∈ L) (hf_nwt : f nwt = eI g 48 wt) (n_mk_ms : mk ≠ ms) (n_mn_ms : mn ≠ ms) (n_np_nc : np ≠ nc) (n_np_nr : np ≠ nr) (n_nc_nr : nc ≠ nr) (hn : n ≤ 8) (hnv : nv ≤ 6) (hd : d + 90 < 2 ^ 30) : RW l g yX6_pass_ wsX6_pass_ 4 94 L f sz [.ref mh, .int x] (fun r f2 => ((decide ((1 : Int32) ≤ x ∧ x ≤ nI 90) = false ∧ f2 mh = eO 7 [.int 1, .ref mg, .ref mr, .int (nI n), .ref mk, .ref mn, .int (nI nv), .ref ms, .ref nw, .ref ah] ∧ f2 ms = eI g 8 sd ∧ f2 nw = eO 6 [.int (nI d), .int ht, .ref np, .ref nc, .ref nr, .ref nwt] ∧ f2 np = eI g 6 pt ∧ f2 nc = eI g 6 co ∧ f2 nr = eI g 6 ro ∧ f2 nwt = eI g 48 wt) ∨ ∃ k, 1 ≤ k ∧ k ≤ 90 ∧ x = nI k ∧ r = (itM kd nu gl rn n nv (sd, d, ht, pt, co, ro, wt) k).2.2.1 - ht ∧ f2 mh = eO 7 [.int 0, .ref mg, .ref mr, .int (nI n), .ref mk, .ref mn, .int (nI nv), .ref ms, .ref nw, .ref ah] ∧ f2 ms = eI g 8 (itM kd nu gl rn n nv (sd, d, ht, pt, co, ro, wt) k).1 ∧ f2 nw = eO 6 [.int (nI (itM kd nu gl rn n nv (sd, d, ht, pt, co, ro, wt) k).2.1), .int (itM kd nu gl rn n nv (sd, d, ht, pt, co, ro, wt) k).2.2.1, .ref np, .ref nc, .ref nr, .ref nwt] ∧ f2 np = eI g 6 (itM kd nu gl rn n nv (sd, d, ht, pt, co, ro, wt) k).2.2.2.1 ∧ f2 nc = eI g 6 (itM kd nu gl rn n nv (sd, d, ht, pt, co, ro, wt) k).2.2.2.2.1 ∧ f2 nr = eI g 6 (itM kd nu gl rn n nv (sd, d, ht, pt, co, ro, wt) k).2.2.2.2.2.1 ∧ f2 nwt = eI g 48 (itM kd nu gl rn n nv (sd, d, ht, pt, co, ro, wt) k).2.2.2.2.2.2) ∧ Fr f f2 [mh, ms, nw, np, nc, nr, nwt]) := by
  refine RW.start (cc := cX6_pass_) (maxL := 3) (ret := .int) (by decide +kernel) rfl (by simp [lg_sl, Value.category]) ?_
  intro p e s m args below meth c Q ls A hx hb hml hts hown hA hA2 hS hP hK hl hend
  have hl : lv_has ls 3 [(0, .ref mh), (1, .int x)] := hl
  have hi_X5 : ∀ w ∈ u_ws RX5 TX5 6, w ∈ wsX6_pass_ := by decide +kernel
  have hi_X6 : ∀ w ∈ u_ws RX6 TX6 10, w ∈ wsX6_pass_ := by decide +kernel
  have hFr : Fr f f [mh, ms, nw, np, nc, nr, nwt] := Fr.rf
  have n_mh_mg : mh ≠ mg := ne_e hf_mh hf_mg (by simp)
  have n_mh_mr : mh ≠ mr := ne_e hf_mh hf_mr (by simp)
  have n_mh_mk : mh ≠ mk := ne_e hf_mh hf_mk (by simp)
  have n_mh_mn : mh ≠ mn := ne_e hf_mh hf_mn (by simp)
  have n_mh_ms : mh ≠ ms := ne_e hf_mh hf_ms (by simp)
  have n_mh_nw : mh ≠ nw := ne_e hf_mh hf_nw (by simp)
  have n_mh_np : mh ≠ np := ne_e hf_mh hf_np (by simp)
  have n_mh_nc : mh ≠ nc := ne_e hf_mh hf_nc (by simp)
  have n_mh_nr : mh ≠ nr := ne_e hf_mh hf_nr (by simp)
  have n_mh_nwt : mh ≠ nwt := ne_e hf_mh hf_nwt (by simp)
  have n_mg_mk : mg ≠ mk := ne_e hf_mg hf_mk (by simp)
  have n_mg_mn : mg ≠ mn := ne_e hf_mg hf_mn (by simp)
  have n_mg_ms : mg ≠ ms := ne_e hf_mg hf_ms (by simp)
  have n_mg_nw : mg ≠ nw := ne_e hf_mg hf_nw (by simp)
  have n_mg_np : mg ≠ np := ne_e hf_mg hf_np (by simp)
  have n_mg_nc : mg ≠ nc := ne_e hf_mg hf_nc (by simp)
  have n_mg_nr : mg ≠ nr := ne_e hf_mg hf_nr (by simp)
  have n_mg_nwt : mg ≠ nwt := ne_e hf_mg hf_nwt (by simp)
  have n_mr_mk : mr ≠ mk := ne_e hf_mr hf_mk (by simp)
  have n_mr_mn : mr ≠ mn := ne_e hf_mr hf_mn (by simp)
  have n_mr_ms : mr ≠ ms := ne_e hf_mr hf_ms (by simp)
  have n_mr_nw : mr ≠ nw := ne_e hf_mr hf_nw (by simp)
  have n_mr_np : mr ≠ np := ne_e hf_mr hf_np (by simp)
  have n_mr_nc : mr ≠ nc := ne_e hf_mr hf_nc (by simp)
  have n_mr_nr : mr ≠ nr := ne_e hf_mr hf_nr (by simp)
  have n_mr_nwt : mr ≠ nwt := ne_e hf_mr hf_nwt (by simp)
  have n_mk_nw : mk ≠ nw := ne_e hf_mk hf_nw (by simp)
  have n_mk_np : mk ≠ np := ne_e hf_mk hf_np (by simp)
  have n_mk_nc : mk ≠ nc := ne_e hf_mk hf_nc (by simp)
  have n_mk_nr : mk ≠ nr := ne_e hf_mk hf_nr (by simp)
  have n_mk_nwt : mk ≠ nwt := ne_e hf_mk hf_nwt (by simp)
  have n_mn_nw : mn ≠ nw := ne_e hf_mn hf_nw (by simp)
  have n_mn_np : mn ≠ np := ne_e hf_mn hf_np (by simp)
  have n_mn_nc : mn ≠ nc := ne_e hf_mn hf_nc (by simp)
  have n_mn_nr : mn ≠ nr := ne_e hf_mn hf_nr (by simp)
  have n_mn_nwt : mn ≠ nwt := ne_e hf_mn hf_nwt (by simp)
  have n_ms_nw : ms ≠ nw := ne_e hf_ms hf_nw (by simp)
  have n_ms_np : ms ≠ np := ne_e hf_ms hf_np (by simp)
  have n_ms_nc : ms ≠ nc := ne_e hf_ms hf_nc (by simp)
  have n_ms_nr : ms ≠ nr := ne_e hf_ms hf_nr (by simp)
  have n_ms_nwt : ms ≠ nwt := ne_e hf_ms hf_nwt (by simp)
  have n_nw_np : nw ≠ np := ne_e hf_nw hf_np (by simp)
  have n_nw_nc : nw ≠ nc := ne_e hf_nw hf_nc (by simp)
  have n_nw_nr : nw ≠ nr := ne_e hf_nw hf_nr (by simp)
  have n_nw_nwt : nw ≠ nwt := ne_e hf_nw hf_nwt (by simp)
  have n_np_nwt : np ≠ nwt := ne_e hf_np hf_nwt (by simp)
  have n_nc_nwt : nc ≠ nwt := ne_e hf_nc hf_nwt (by simp)
  have n_nr_nwt : nr ≠ nwt := ne_e hf_nr hf_nwt (by simp)
  have h0f_mh := hf_mh
  have h0f_mg := hf_mg
  have h0f_mr := hf_mr
  have h0f_mk := hf_mk
  have h0f_mn := hf_mn
  have h0f_ms := hf_ms
  have h0f_nw := hf_nw
  have h0f_np := hf_np
  have h0f_nc := hf_nc
  have h0f_nr := hf_nr
  have h0f_nwt := hf_nwt
  refine lv_aload_n hx hb dX6_pass__0 rfl (lv_at hl 0 rfl) ?_
  refine lv_iconst (v := 0) hx hb dX6_pass__1 (by decide) ?_
  refine pg_put (ty := .int) (C := RX6) (T := TX6) (N := 10) hx hb hts hi_X6 tyX6 tyX6_ok nmX6 hown hK hP hN hA hS hL_mh hf_mh rfl 0 (by decide) (hts (.fieldLink RX6 41 "BarometerLeagueModel" "thrown" "I") (by decide +kernel)) (fun _ h9 => h9) rfl (by decide +kernel) rfl rfl (Nat.le_of_ble_eq_true rfl) dX6_pass__2 (fun H locs hP hS => ?_)
  obtain ⟨f2, ef2⟩ : ∃ z, z = va_up f mh (eO 7 [.int 0, .ref mg, .ref mr, .int (nI n), .ref mk, .ref mn, .int (nI nv), .ref ms, .ref nw, .ref ah]) := ⟨_, rfl⟩
  replace hP : PP g L f2 H := by rw [ef2]; exact hP
  have hf_mg : f2 mg = eI g 12 gl := by rw [ef2, va_up_ne _ _ n_mh_mg.symm]; exact hf_mg
  have hf_mr : f2 mr = eI g 12 rn := by rw [ef2, va_up_ne _ _ n_mh_mr.symm]; exact hf_mr
  have hf_mk : f2 mk = eI g 8 kd := by rw [ef2, va_up_ne _ _ n_mh_mk.symm]; exact hf_mk
  have hf_mn : f2 mn = eI g 8 nu := by rw [ef2, va_up_ne _ _ n_mh_mn.symm]; exact hf_mn
  have hf_ms : f2 ms = eI g 8 sd := by rw [ef2, va_up_ne _ _ n_mh_ms.symm]; exact hf_ms
  have hf_nw : f2 nw = eO 6 [.int (nI d), .int ht, .ref np, .ref nc, .ref nr, .ref nwt] := by rw [ef2, va_up_ne _ _ n_mh_nw.symm]; exact hf_nw
  have hf_np : f2 np = eI g 6 pt := by rw [ef2, va_up_ne _ _ n_mh_np.symm]; exact hf_np
  have hf_nc : f2 nc = eI g 6 co := by rw [ef2, va_up_ne _ _ n_mh_nc.symm]; exact hf_nc
  have hf_nr : f2 nr = eI g 6 ro := by rw [ef2, va_up_ne _ _ n_mh_nr.symm]; exact hf_nr
  have hf_nwt : f2 nwt = eI g 48 wt := by rw [ef2, va_up_ne _ _ n_mh_nwt.symm]; exact hf_nwt
  have hf_mh : f2 mh = eO 7 [.int 0, .ref mg, .ref mr, .int (nI n), .ref mk, .ref mn, .int (nI nv), .ref ms, .ref nw, .ref ah] := by rw [ef2]; exact va_up_self _ _ _
  replace hFr : Fr f f2 [mh, ms, nw, np, nc, nr, nwt] := by rw [ef2]; exact hFr.up (by simp)
  refine lv_iload_n hx hb dX6_pass__5 rfl (lv_at hl 1 rfl) ?_
  refine lv_iconst (v := 1) hx hb dX6_pass__6 (by decide) ?_
  refine lv_bipush (v := 90) hx hb dX6_pass__7 (by decide) ?_
  refine ro_S (As := [.int x, .int 1, .int 90]) (rest := []) ⟨hx, hb, hml, hown, hts⟩ (m_X6_isIn l g L f2 x _ _ ) (va_cwS 3 hts gX6_pass__X6_isIn rfl rfl rfl (by decide +kernel) ⟨Nat.le_of_ble_eq_true rfl, Nat.le_of_ble_eq_true rfl⟩) hK hP rfl hl.1 rfl (Nat.le_of_ble_eq_true rfl) dX6_pass__9 ⟨Nat.zero_le _, Nat.zero_le _⟩ (fun r9 hr9 => ?_)
  have hr9 : r9 = b2i (decide (1 ≤ x ∧ x ≤ 90)) := hr9
  subst hr9
  refine lv_if_ne (tgt := 21) hx hb dX6_pass__12 (by decide) (fun c12 => ?_) (fun c12 => ?_)
  · skip
    obtain ⟨k, hk1, hk2, rfl⟩ := dy_in (k := 90) (by omega) (nz_t c12)
    refine lv_aload_n hx hb dX6_pass__21 rfl (lv_at hl 0 rfl) ?_
    refine pg_get (C := RX6) (T := TX6) (N := 10) hx hb hts hi_X6 hown hK hP hL_mh hf_mh rfl 8 (by decide) (hts (.fieldLink RX6 28 "BarometerLeagueModel" "now" "LBarometerLeagueModel$State;") (by decide +kernel)) (fun _ h9 => h9) rfl dX6_pass__22 ?_
    refine pg_getN (C := RX5) (T := TX5) (N := 6) hx hb hts hi_X5 hown hK hP hL_nw hf_nw rfl 1 (by decide) (hK.nest 8 rfl) (fun _ h9 => h9) rfl dX6_pass__25 ?_
    refine lv_istore_n (lv' := [(2, .int ht), (0, .ref mh), (1, .int (nI k))]) hx hb dX6_pass__28 rfl hl (by decide) rfl (fun ls hl => ?_)
    refine lv_aload_n hx hb dX6_pass__29 rfl (lv_at hl 1 rfl) ?_
    refine lv_aload_n hx hb dX6_pass__30 rfl (lv_at hl 1 rfl) ?_
    refine pg_get (C := RX6) (T := TX6) (N := 10) hx hb hts hi_X6 hown hK hP hL_mh hf_mh rfl 8 (by decide) (hts (.fieldLink RX6 28 "BarometerLeagueModel" "now" "LBarometerLeagueModel$State;") (by decide +kernel)) (fun _ h9 => h9) rfl dX6_pass__31 ?_
    refine lv_iload_n hx hb dX6_pass__34 rfl (lv_at hl 2 rfl) ?_
    refine rf_V (As := [.ref nw, .int (nI k)]) (rest := []) ⟨hx, hb, hml, hown, hts⟩ (m_X6_passAll l g L f2 _ hN _ _ _ _ _ _ _ _ _ _ _ _ _ _ _ _ _ _ _ _ _ _ _ _ _ _ _ k hL_mh hf_mh hL_mg hf_mg hL_mr hf_mr hL_mk hf_mk hL_mn hf_mn hL_ms hf_ms hL_nw hf_nw hL_np hf_np hL_nc hf_nc hL_nr hf_nr hL_nwt hf_nwt n_mk_ms n_mn_ms n_np_nc n_np_nr n_nc_nr hn hnv (by omega)) (cwV 2 hts gX6_pass__X6_passAll rfl rfl rfl (by decide +kernel) ⟨Nat.le_of_ble_eq_true rfl, Nat.le_of_ble_eq_true rfl⟩) hK hP hA hA2 hS hL_mh hf_mh rfl rfl hl.1 rfl (Nat.le_of_ble_eq_true rfl) dX6_pass__35 ⟨Nat.zero_le _, Nat.zero_le _⟩ (fun f35 H locs hr35 hP hS => ?_)
    obtain ⟨hc35_0, hc35_1, hc35_2, hc35_3, hc35_4, hc35_5, hw35⟩ := hr35
    have hf_mh : f35 mh = eO 7 [.int 0, .ref mg, .ref mr, .int (nI n), .ref mk, .ref mn, .int (nI nv), .ref ms, .ref nw, .ref ah] := hw35.get hf_mh (nm_c n_mh_ms (nm_c n_mh_nw (nm_c n_mh_np (nm_c n_mh_nc (nm_c n_mh_nr (nm_c n_mh_nwt (List.not_mem_nil)))))))
    have hf_mg : f35 mg = eI g 12 gl := hw35.get hf_mg (nm_c n_mg_ms (nm_c n_mg_nw (nm_c n_mg_np (nm_c n_mg_nc (nm_c n_mg_nr (nm_c n_mg_nwt (List.not_mem_nil)))))))
    have hf_mr : f35 mr = eI g 12 rn := hw35.get hf_mr (nm_c n_mr_ms (nm_c n_mr_nw (nm_c n_mr_np (nm_c n_mr_nc (nm_c n_mr_nr (nm_c n_mr_nwt (List.not_mem_nil)))))))
    have hf_mk : f35 mk = eI g 8 kd := hw35.get hf_mk (nm_c n_mk_ms (nm_c n_mk_nw (nm_c n_mk_np (nm_c n_mk_nc (nm_c n_mk_nr (nm_c n_mk_nwt (List.not_mem_nil)))))))
    have hf_mn : f35 mn = eI g 8 nu := hw35.get hf_mn (nm_c n_mn_ms (nm_c n_mn_nw (nm_c n_mn_np (nm_c n_mn_nc (nm_c n_mn_nr (nm_c n_mn_nwt (List.not_mem_nil)))))))
    have hf_ms : f35 ms = eI g 8 ((itM kd nu gl rn n nv (sd, d, ht, pt, co, ro, wt) k).1) := hc35_0
    have hf_nw : f35 nw = eO 6 [.int (nI ((itM kd nu gl rn n nv (sd, d, ht, pt, co, ro, wt) k).2.1)), .int ((itM kd nu gl rn n nv (sd, d, ht, pt, co, ro, wt) k).2.2.1), .ref np, .ref nc, .ref nr, .ref nwt] := hc35_1
    have hf_np : f35 np = eI g 6 ((itM kd nu gl rn n nv (sd, d, ht, pt, co, ro, wt) k).2.2.2.1) := hc35_2
    have hf_nc : f35 nc = eI g 6 ((itM kd nu gl rn n nv (sd, d, ht, pt, co, ro, wt) k).2.2.2.2.1) := hc35_3
    have hf_nr : f35 nr = eI g 6 ((itM kd nu gl rn n nv (sd, d, ht, pt, co, ro, wt) k).2.2.2.2.2.1) := hc35_4
    have hf_nwt : f35 nwt = eI g 48 ((itM kd nu gl rn n nv (sd, d, ht, pt, co, ro, wt) k).2.2.2.2.2.2) := hc35_5
    replace hFr : Fr f f35 [mh, ms, nw, np, nc, nr, nwt] := hFr.tr hw35 (by simp)
    refine pg_getN (C := RX5) (T := TX5) (N := 6) hx hb hts hi_X5 hown hK hP hL_nw hf_nw rfl 1 (by decide) (hK.nest 8 rfl) (fun _ h9 => h9) rfl dX6_pass__38 ?_
    refine lv_iload_n hx hb dX6_pass__41 rfl (lv_at hl 0 rfl) ?_
    refine lv_isub hx hb dX6_pass__42 ?_
    refine lv_topi (fun v42 ev42 => ?_)
    exact hend (v42) f35 _ _ _ _ (⟨Or.inr ⟨k, hk1, hk2, rfl, ev42, hf_mh, hf_ms, hf_nw, hf_np, hf_nc, hf_nr, hf_nwt⟩, hFr⟩) hP hS rfl dX6_pass__43
  · skip
    refine lv_aload_n hx hb dX6_pass__15 rfl (lv_at hl 0 rfl) ?_
    refine lv_iconst (v := 1) hx hb dX6_pass__16 (by decide) ?_
    refine rw_V (As := [.int 1]) (rest := []) ⟨hx, hb, hml, hown, hts⟩ (m_X6_no l g L f2 _ hN _ _ _ _ _ _ _ _ _ _ _ _ hL_mh hf_mh) (cwV 1 hts gX6_pass__X6_no rfl rfl rfl (by decide +kernel) ⟨Nat.le_of_ble_eq_true rfl, Nat.le_of_ble_eq_true rfl⟩) hK hP hA hA2 hS hL_mh hf_mh rfl rfl hl.1 rfl (Nat.le_of_ble_eq_true rfl) dX6_pass__17 ⟨Nat.zero_le _, Nat.zero_le _⟩ (fun r17 f17 H locs hr17 hP hS => ?_)
    obtain ⟨hv17, hc17_0, hw17⟩ := hr17
    have hf_mg : f17 mg = eI g 12 gl := hw17.get hf_mg (nm_c n_mh_mg.symm (List.not_mem_nil))
    have hf_mr : f17 mr = eI g 12 rn := hw17.get hf_mr (nm_c n_mh_mr.symm (List.not_mem_nil))
    have hf_mk : f17 mk = eI g 8 kd := hw17.get hf_mk (nm_c n_mh_mk.symm (List.not_mem_nil))
    have hf_mn : f17 mn = eI g 8 nu := hw17.get hf_mn (nm_c n_mh_mn.symm (List.not_mem_nil))
    have hf_ms : f17 ms = eI g 8 sd := hw17.get hf_ms (nm_c n_mh_ms.symm (List.not_mem_nil))
    have hf_nw : f17 nw = eO 6 [.int (nI d), .int ht, .ref np, .ref nc, .ref nr, .ref nwt] := hw17.get hf_nw (nm_c n_mh_nw.symm (List.not_mem_nil))
    have hf_np : f17 np = eI g 6 pt := hw17.get hf_np (nm_c n_mh_np.symm (List.not_mem_nil))
    have hf_nc : f17 nc = eI g 6 co := hw17.get hf_nc (nm_c n_mh_nc.symm (List.not_mem_nil))
    have hf_nr : f17 nr = eI g 6 ro := hw17.get hf_nr (nm_c n_mh_nr.symm (List.not_mem_nil))
    have hf_nwt : f17 nwt = eI g 48 wt := hw17.get hf_nwt (nm_c n_mh_nwt.symm (List.not_mem_nil))
    have hf_mh : f17 mh = eO 7 [.int 1, .ref mg, .ref mr, .int (nI n), .ref mk, .ref mn, .int (nI nv), .ref ms, .ref nw, .ref ah] := hc17_0
    replace hFr : Fr f f17 [mh, ms, nw, np, nc, nr, nwt] := hFr.tr hw17 (by simp)
    subst hv17
    exact hend (0) f17 _ _ _ _ (⟨Or.inl ⟨z_f c12, hf_mh, hf_ms, hf_nw, hf_np, hf_nc, hf_nr, hf_nwt⟩, hFr⟩) hP hS rfl dX6_pass__20

set_option maxHeartbeats 4000000 in
set_option maxRecDepth 100000 in
theorem m_X6_best (l : Launch) (g : GG) (L : List Nat) (f : Nat → va_E) (sz : Nat) (hN : L.Nodup) (mh mg mr mk mn ms nw ah n nv : Nat) (th : Int32) (gl rn kd nu : Nat → Int32) (hL_mh : mh ∈ L) (hf_mh : f mh = eO 7 [.int th, .ref mg, .ref mr, .int (nI n), .ref mk, .ref mn, .int (nI nv), .ref ms, .ref nw, .ref ah]) (hL_mg : mg ∈ L) (hf_mg : f mg = eI g 12 gl) (hL_mr : mr ∈ L) (hf_mr : f mr = eI g 12 rn) (hL_mk : mk ∈ L) (hf_mk : f mk = eI g 8 kd) (hL_mn : mn ∈ L) (hf_mn : f mn = eI g 8 nu) (hn : n ≤ 8) : RW l g yX6_best wsX6_best 3 69 L f sz [.ref mh] (fun r f2 => r = optI (bestO (fun j => rightN (kd j) (nu j) gl rn 12) n) ∧ f2 mh = eO 7 [.int 0, .ref mg, .ref mr, .int (nI n), .ref mk, .ref mn, .int (nI nv), .ref ms, .ref nw, .ref ah] ∧ Fr f f2 [mh]) := by
  refine RW.start (cc := cX6_best) (maxL := 3) (ret := .int) (by decide +kernel) rfl (by simp [lg_sl, Value.category]) ?_
  intro p e s m args below meth c Q ls A hx hb hml hts hown hA hA2 hS hP hK hl hend
  have hl : lv_has ls 3 [(0, .ref mh)] := hl
  have hi_X6 : ∀ w ∈ u_ws RX6 TX6 10, w ∈ wsX6_best := by decide +kernel
  have hFr : Fr f f [mh] := Fr.rf
  have n_mh_mg : mh ≠ mg := ne_e hf_mh hf_mg (by simp)
  have n_mh_mr : mh ≠ mr := ne_e hf_mh hf_mr (by simp)
  have n_mh_mk : mh ≠ mk := ne_e hf_mh hf_mk (by simp)
  have n_mh_mn : mh ≠ mn := ne_e hf_mh hf_mn (by simp)
  have n_mg_mk : mg ≠ mk := ne_e hf_mg hf_mk (by simp)
  have n_mg_mn : mg ≠ mn := ne_e hf_mg hf_mn (by simp)
  have n_mr_mk : mr ≠ mk := ne_e hf_mr hf_mk (by simp)
  have n_mr_mn : mr ≠ mn := ne_e hf_mr hf_mn (by simp)
  have h0f_mh := hf_mh
  have h0f_mg := hf_mg
  have h0f_mr := hf_mr
  have h0f_mk := hf_mk
  have h0f_mn := hf_mn
  refine lv_aload_n hx hb dX6_best_0 rfl (lv_at hl 0 rfl) ?_
  refine lv_iconst (v := 0) hx hb dX6_best_1 (by decide) ?_
  refine pg_put (ty := .int) (C := RX6) (T := TX6) (N := 10) hx hb hts hi_X6 tyX6 tyX6_ok nmX6 hown hK hP hN hA hS hL_mh hf_mh rfl 0 (by decide) (hts (.fieldLink RX6 41 "BarometerLeagueModel" "thrown" "I") (by decide +kernel)) (fun _ h9 => h9) rfl (by decide +kernel) rfl rfl (Nat.le_of_ble_eq_true rfl) dX6_best_2 (fun H locs hP hS => ?_)
  obtain ⟨f2, ef2⟩ : ∃ z, z = va_up f mh (eO 7 [.int 0, .ref mg, .ref mr, .int (nI n), .ref mk, .ref mn, .int (nI nv), .ref ms, .ref nw, .ref ah]) := ⟨_, rfl⟩
  replace hP : PP g L f2 H := by rw [ef2]; exact hP
  have hf_mg : f2 mg = eI g 12 gl := by rw [ef2, va_up_ne _ _ n_mh_mg.symm]; exact hf_mg
  have hf_mr : f2 mr = eI g 12 rn := by rw [ef2, va_up_ne _ _ n_mh_mr.symm]; exact hf_mr
  have hf_mk : f2 mk = eI g 8 kd := by rw [ef2, va_up_ne _ _ n_mh_mk.symm]; exact hf_mk
  have hf_mn : f2 mn = eI g 8 nu := by rw [ef2, va_up_ne _ _ n_mh_mn.symm]; exact hf_mn
  have hf_mh : f2 mh = eO 7 [.int 0, .ref mg, .ref mr, .int (nI n), .ref mk, .ref mn, .int (nI nv), .ref ms, .ref nw, .ref ah] := by rw [ef2]; exact va_up_self _ _ _
  replace hFr : Fr f f2 [mh] := by rw [ef2]; exact hFr.up (by simp)
  refine lv_iconst (v := (-1)) hx hb dX6_best_5 (by decide) ?_
  refine lv_istore_n (lv' := [(1, .int (-1)), (0, .ref mh)]) hx hb dX6_best_6 rfl hl (by decide) rfl (fun ls hl => ?_)
  refine lv_iconst (v := 0) hx hb dX6_best_7 (by decide) ?_
  refine lv_istore_n (lv' := [(2, .int 0), (1, .int (-1)), (0, .ref mh)]) hx hb dX6_best_8 rfl hl (by decide) rfl (fun ls hl => ?_)
  have K9 : ∀ (n9 : Nat) (i : Nat) (b1 : Int32), n - i < n9 → i ≤ n → b1 = optI (bestO (fun j => rightN (kd j) (nu j) gl rn 12) i) → ∀ (ls : Array Slot), lv_has ls 3 [(2, .int (nI i)), (1, .int b1), (0, .ref mh)] → W p l e ({ frames := 3, cells := 0, slots := 0, locals := 69 } : Room) s m args below meth c H locs 0 0 Q (F0 m 9 ls []) := by
    intro n9
    induction n9 with
    | zero => intros; omega
    | succ n9 ih9 =>
      intro i b1 hm9 hi hb2 ls hl
      refine lv_iload_n hx hb dX6_best_9 rfl (lv_at hl 0 rfl) ?_
      refine lv_aload_n hx hb dX6_best_10 rfl (lv_at hl 2 rfl) ?_
      refine pg_get (C := RX6) (T := TX6) (N := 10) hx hb hts hi_X6 hown hK hP hL_mh hf_mh rfl 3 (by decide) (hts (.fieldLink RX6 45 "BarometerLeagueModel" "signs" "I") (by decide +kernel)) (fun _ h9 => h9) rfl dX6_best_11 ?_
      refine lv_icmp_ge (tgt := 43) hx hb dX6_best_14 (by decide) (fun c14 => ?_) (fun c14 => ?_)
      · skip
        have c14 : n ≤ i := (nI_leI (a := n) (b := i) (by omega) (by omega)).mp (show nI n ≤ nI i from c14)
        refine lv_iload_n hx hb dX6_best_43 rfl (lv_at hl 1 rfl) ?_
        exact hend (b1) f2 _ _ _ _ (⟨by rw [hb2, show i = n from (by omega)], hf_mh, hFr⟩) hP hS rfl dX6_best_44
      · skip
        have c14 : ¬ n ≤ i := fun h => c14 ((nI_leI (a := n) (b := i) (by omega) (by omega)).mpr h)
        refine lv_iload_n hx hb dX6_best_17 rfl (lv_at hl 1 rfl) ?_
        refine lv_iconst (v := (-1)) hx hb dX6_best_18 (by decide) ?_
        refine lv_icmp_eq (tgt := 35) hx hb dX6_best_19 (by decide) (fun c19 => ?_) (fun c19 => ?_)
        · skip
          refine lv_iload_n hx hb dX6_best_35 rfl (lv_at hl 0 rfl) ?_
          refine lv_istore_n (lv' := [(1, .int (nI i)), (2, .int (nI i)), (0, .ref mh)]) hx hb dX6_best_36 rfl hl (by decide) rfl (fun ls hl => ?_)
          refine lv_iinc (v := nI (i + 1)) (lv' := [(2, .int (nI (i + 1))), (1, .int (nI i)), (0, .ref mh)]) hx hb dX6_best_37 hl (k := 1) rfl (nI_1 _) (by decide) rfl (fun ls hl => ?_)
          refine lv_goto (tgt := 9) hx hb dX6_best_40 (by decide) ?_
          exact ih9 (i + 1) (nI i) (by omega) (by omega) (by rw [← bestO_n (bestO_m hb2 c19 (by omega))]; rfl) ls (lv_sub hl [0, 1, 2] rfl)
        · skip
          obtain ⟨b, hb3, rfl⟩ := bestO_i hb2 c19
          have hbl := bestO_lt _ _ _ hb3
          refine lv_aload_n hx hb dX6_best_22 rfl (lv_at hl 2 rfl) ?_
          refine lv_iload_n hx hb dX6_best_23 rfl (lv_at hl 0 rfl) ?_
          refine ro_V (As := [.int (nI i)]) (rest := []) ⟨hx, hb, hml, hown, hts⟩ (m_X6_rightDays l g L f2 _ _ _ _ _ _ _ _ _ _ _ _ _ _ _ i hL_mh hf_mh hL_mg hf_mg hL_mr hf_mr hL_mk hf_mk hL_mn hf_mn (by omega)) (cwV 1 hts gX6_best_X6_rightDays rfl rfl rfl (by decide +kernel) ⟨Nat.le_of_ble_eq_true rfl, Nat.le_of_ble_eq_true rfl⟩) hK hP hL_mh hf_mh rfl rfl hl.1 rfl (Nat.le_of_ble_eq_true rfl) dX6_best_24 ⟨Nat.zero_le _, Nat.zero_le _⟩ (fun r24 hr24 => ?_)
          have hr24 : r24 = rightN (kd i) (nu i) gl rn 12 := hr24
          subst hr24
          refine lv_aload_n hx hb dX6_best_27 rfl (lv_at hl 2 rfl) ?_
          refine lv_iload_n hx hb dX6_best_28 rfl (lv_at hl 1 rfl) ?_
          refine ro_V (As := [.int (nI b)]) (rest := [.int (rightN (kd i) (nu i) gl rn 12)]) ⟨hx, hb, hml, hown, hts⟩ (m_X6_rightDays l g L f2 _ _ _ _ _ _ _ _ _ _ _ _ _ _ _ b hL_mh hf_mh hL_mg hf_mg hL_mr hf_mr hL_mk hf_mk hL_mn hf_mn (by omega)) (cwV 1 hts gX6_best_X6_rightDays rfl rfl rfl (by decide +kernel) ⟨Nat.le_of_ble_eq_true rfl, Nat.le_of_ble_eq_true rfl⟩) hK hP hL_mh hf_mh rfl rfl hl.1 rfl (Nat.le_of_ble_eq_true rfl) dX6_best_29 ⟨Nat.zero_le _, Nat.zero_le _⟩ (fun r29 hr29 => ?_)
          have hr29 : r29 = rightN (kd b) (nu b) gl rn 12 := hr29
          subst hr29
          refine lv_icmp_le (tgt := 37) hx hb dX6_best_32 (by decide) (fun c32 => ?_) (fun c32 => ?_)
          · skip
            refine lv_iinc (v := nI (i + 1)) (lv' := [(2, .int (nI (i + 1))), (1, .int (nI b)), (0, .ref mh)]) hx hb dX6_best_37 hl (k := 0) rfl (nI_1 _) (by decide) rfl (fun ls hl => ?_)
            refine lv_goto (tgt := 9) hx hb dX6_best_40 (by decide) ?_
            exact ih9 (i + 1) (nI b) (by omega) (by omega) (by rw [← bestO_k hb3 (Int32.not_lt.mpr c32)]; rfl) ls (lv_sub hl [0, 1, 2] rfl)
          · skip
            refine lv_iload_n hx hb dX6_best_35 rfl (lv_at hl 0 rfl) ?_
            refine lv_istore_n (lv' := [(1, .int (nI i)), (2, .int (nI i)), (0, .ref mh)]) hx hb dX6_best_36 rfl hl (by decide) rfl (fun ls hl => ?_)
            refine lv_iinc (v := nI (i + 1)) (lv' := [(2, .int (nI (i + 1))), (1, .int (nI i)), (0, .ref mh)]) hx hb dX6_best_37 hl (k := 1) rfl (nI_1 _) (by decide) rfl (fun ls hl => ?_)
            refine lv_goto (tgt := 9) hx hb dX6_best_40 (by decide) ?_
            exact ih9 (i + 1) (nI i) (by omega) (by omega) (by rw [← bestO_y hb3 (Int32.not_le.mp c32)]; rfl) ls (lv_sub hl [0, 1, 2] rfl)
  exact K9 _ 0 (-1) (Nat.lt_succ_self _) (Nat.zero_le _) (rfl) ls (lv_sub hl [0, 1, 2] rfl)
