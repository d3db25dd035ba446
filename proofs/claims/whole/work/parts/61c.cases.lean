set_option maxHeartbeats 4000000 in
set_option maxRecDepth 100000 in
theorem lc_weight {p : Program} {l : Launch} {e : Env} {s : State} {mi : MethodId} {args : Array Value} {below : List Frame} {meth : Method} {c : Code} {Q : State → Prop} {g : GG} {t b nS : Nat} {xs : Nat → Int32} {a : LgA} {m : MdA} {i M cells slots : Nat} {H : Heap} {locs : List Loc} {L : List Nat} {f : Nat → va_E} {D : LgD} {E : MdD} {ls : Array Slot} (C : LC p l s mi args c b nS xs g t) (hSy : Sy a m g t L f D E M) (hN : L.Nodup) (hP : PP g L f H) (hA : ∀ x ∈ L, AA [] s.heap.size x) (hS : va_S (AA [] s.heap.size) s.heap H locs) (hl : lv_has ls 9 (lvB i b a.lo m.mh m.oj)) (hi : i + 4 ≤ nS) (hM : M + 1000 < 2 ^ 30) (hd : D.d + 130 < 2 ^ 30) (hc : cells + 300 ≤ 601024) (hs : slots + 2000 ≤ 7293034) (kk : Cont p l e s mi args below meth c Q g t b a m i M D.d cells slots) : W p l e room_1 s mi args below meth c H locs cells slots Q (F0 mi 690 ls []) := by
  obtain ⟨hx, hb, hml, hown, hts, hK, hZ, hDS, hNC, hX, hbl, hst, hnS⟩ := C
  obtain ⟨h, hm, hAM⟩ := hSy
  have hA2 : ∀ q, s.heap.size ≤ q → AA [] s.heap.size q := fun _ h9 => Or.inr h9
  have hbA : ¬ AA [] s.heap.size b := fun z => z.elim (fun h9 => absurd h9 List.not_mem_nil) (fun h9 => by omega)
  have hl : lv_has ls 9 [(4, .int (nI i)), (3, .ref m.oj), (2, .ref m.mh), (1, .ref a.lo), (0, .ref b)] := hl
  refine lv_aload_n hx hb dL_law_690 rfl (lv_at hl 3 rfl) ?_
  refine sc_at (i := i) (j := 1) hx hb hX hbl hbA hS (by decide) (by omega) hnS (lv_at hl 4 rfl) (lv_at hl 0 rfl) dL_law_691 dL_law_692 dL_law_694 dL_law_695 dL_law_696 ?_
  refine sc_at (i := i) (j := 2) hx hb hX hbl hbA hS (by decide) (by omega) hnS (lv_at hl 4 rfl) (lv_at hl 0 rfl) dL_law_697 dL_law_698 dL_law_700 dL_law_701 dL_law_702 ?_
  refine lv_aload_n hx hb dL_law_703 rfl (lv_at hl 1 rfl) ?_
  refine lw_S (As := [.ref a.lo, .int (xs (i + 1)), .int (xs (i + 2)), .ref m.oj]) (rest := []) (hh := [(0, 10, 13, 13)]) ⟨hx, hb, hml, hown, hts⟩ (c_weight l g L f _ hN t a.lo m.oj (xs (i + 1)) (xs (i + 2)) E.w _ _ (x_weight l hst h hN hd (xs (i + 1)) (xs (i + 2))) h.L_lo h.f_lo hm.L_oj (pj_weight h hm) (xe_weight)) (vx_cwSW 4 hts gL_law_L_weight rfl rfl rfl (by decide +kernel) ⟨Nat.le_of_ble_eq_true rfl, Nat.le_of_ble_eq_true rfl⟩) hK hZ hDS hNC hP hA hS rfl hl.1 rfl (Nat.le_of_ble_eq_true rfl) dL_law_704 ⟨by show cells + 2 ≤ 601024; omega, by show slots + 12 ≤ 7293034; omega⟩ (fun r L2 f1 H locs hG hr hP hS hA => ?_)
  obtain ⟨D1, w1, hB1, hM1, hR⟩ := mid_weight h hm hr
  refine lv_istore (lv' := [(5, .int r), (4, .int (nI i)), (3, .ref m.oj), (2, .ref m.mh), (1, .ref a.lo), (0, .ref b)]) hx hb dL_law_707 hl (by decide) rfl (fun ls hl => ?_)
  refine lv_aload_n hx hb dL_law_709 rfl (lv_at hl 3 rfl) ?_
  refine sc_at (i := i) (j := 1) hx hb hX hbl hbA hS (by decide) (by omega) hnS (lv_at hl 5 rfl) (lv_at hl 1 rfl) dL_law_710 dL_law_711 dL_law_713 dL_law_714 dL_law_715 ?_
  refine sc_at (i := i) (j := 2) hx hb hX hbl hbA hS (by decide) (by omega) hnS (lv_at hl 5 rfl) (lv_at hl 1 rfl) dL_law_716 dL_law_717 dL_law_719 dL_law_720 dL_law_721 ?_
  refine rw_V (As := [.int (xs (i + 1)), .int (xs (i + 2))]) (rest := []) ⟨hx, hb, hml, hown, hts⟩ (y_weight l hM1 hG.1 h.hn h.hnv hd (xs (i + 1)) (xs (i + 2)) _) (cwV 2 hts gL_law_X6_weight rfl rfl rfl (by decide +kernel) ⟨Nat.le_of_ble_eq_true rfl, Nat.le_of_ble_eq_true rfl⟩) hK hP hA hA2 hS hM1.L_mh hM1.f_mh rfl rfl hl.1 rfl (Nat.le_of_ble_eq_true rfl) dL_law_722 ⟨by show cells + 2 ≤ 601024; omega, by show slots + 12 ≤ 7293034; omega⟩ (fun b1 f2 H locs hp hP hS => ?_)
  obtain ⟨D2, E2, M2, hSy2, hth, hok, hM2, hd2⟩ := fin_weight h hB1 hM1 hAM hM hR hp
  refine lv_istore (lv' := [(6, .int b1), (5, .int r), (4, .int (nI i)), (3, .ref m.oj), (2, .ref m.mh), (1, .ref a.lo), (0, .ref b)]) hx hb dL_law_725 hl (by decide) rfl (fun ls hl => ?_)
  refine lv_aload_n hx hb dL_law_727 rfl (lv_at hl 4 rfl) ?_
  refine ro_V (As := []) (rest := []) ⟨hx, hb, hml, hown, hts⟩ (m_X6_thrown l g L2 f2 m.mh m.mg m.mr m.mk m.mn m.ms m.nw m.ah D2.n D2.nv E2.th hSy2.2.1.L_mh hSy2.2.1.f_mh) (cwV 0 hts gL_law_X6_thrown rfl rfl rfl (by decide +kernel) ⟨Nat.le_of_ble_eq_true rfl, Nat.le_of_ble_eq_true rfl⟩) hK hP hSy2.2.1.L_mh hSy2.2.1.f_mh rfl rfl hl.1 rfl (Nat.le_of_ble_eq_true rfl) dL_law_728 ⟨by show cells + 2 ≤ 601024; omega, by show slots + 12 ≤ 7293034; omega⟩ (fun q hq => ?_)
  rw [hth] at hq
  subst hq
  refine lv_iload hx hb dL_law_731 (lv_at hl 1 rfl) ?_
  refine lv_icmp_eq (tgt := 738) hx hb dL_law_733 (by decide) (fun _ => ?_) (fun h9 => absurd rfl h9)
  refine lv_iload hx hb dL_law_738 (lv_at hl 1 rfl) ?_
  have hend : W p l e room_1 s mi args below meth c H locs (cells + 2) (slots + 12) Q (F0 mi 755 ls []) := by
    refine lv_goto (tgt := 1266) hx hb dL_law_755 (by decide) ?_
    exact W.widen (by omega) (by omega) (kk L2 f2 D2 E2 M2 H locs ls hSy2 hG.1 hP hA hS (lv_sub hl [2, 3, 4, 5, 6] rfl) hM2 hd2)
  refine lv_if_ne (tgt := 755) hx hb dL_law_740 (by decide) (fun _ => hend) (fun h0 => ?_)
  refine lv_aload_n hx hb dL_law_743 rfl (lv_at hl 3 rfl) ?_
  refine lv_iconst (v := 0) hx hb dL_law_744 (by decide) ?_
  refine pj_ald hx hb hK hP hSy2.2.1.L_oj hSy2.2.1.f_oj dL_law_745 ?_
  refine lv_iload hx hb dL_law_746 (lv_at hl 0 rfl) ?_
  refine lv_i2l (v := b1.toInt64) hx hb dL_law_748 rfl ?_
  refine W.lcmp hx hb dL_law_749 ?_
  exact lv_if_eq (tgt := 755) hx hb dL_law_750 (by decide) (fun _ => hend) (fun h9 => absurd (cmp_0 (hok h0)) h9)
set_option maxHeartbeats 4000000 in
set_option maxRecDepth 100000 in
theorem lc_about {p : Program} {l : Launch} {e : Env} {s : State} {mi : MethodId} {args : Array Value} {below : List Frame} {meth : Method} {c : Code} {Q : State → Prop} {g : GG} {t b nS : Nat} {xs : Nat → Int32} {a : LgA} {m : MdA} {i M cells slots : Nat} {H : Heap} {locs : List Loc} {L : List Nat} {f : Nat → va_E} {D : LgD} {E : MdD} {ls : Array Slot} (C : LC p l s mi args c b nS xs g t) (hSy : Sy a m g t L f D E M) (hN : L.Nodup) (hP : PP g L f H) (hA : ∀ x ∈ L, AA [] s.heap.size x) (hS : va_S (AA [] s.heap.size) s.heap H locs) (hl : lv_has ls 9 (lvB i b a.lo m.mh m.oj)) (hi : i + 4 ≤ nS) (hM : M + 1000 < 2 ^ 30) (hd : D.d + 130 < 2 ^ 30) (hc : cells + 300 ≤ 601024) (hs : slots + 2000 ≤ 7293034) (kk : Cont p l e s mi args below meth c Q g t b a m i M D.d cells slots) : W p l e room_1 s mi args below meth c H locs cells slots Q (F0 mi 758 ls []) := by
  obtain ⟨hx, hb, hml, hown, hts, hK, hZ, hDS, hNC, hX, hbl, hst, hnS⟩ := C
  obtain ⟨h, hm, hAM⟩ := hSy
  have hA2 : ∀ q, s.heap.size ≤ q → AA [] s.heap.size q := fun _ h9 => Or.inr h9
  have hbA : ¬ AA [] s.heap.size b := fun z => z.elim (fun h9 => absurd h9 List.not_mem_nil) (fun h9 => by omega)
  have hl : lv_has ls 9 [(4, .int (nI i)), (3, .ref m.oj), (2, .ref m.mh), (1, .ref a.lo), (0, .ref b)] := hl
  refine lv_aload_n hx hb dL_law_758 rfl (lv_at hl 3 rfl) ?_
  refine sc_at (i := i) (j := 1) hx hb hX hbl hbA hS (by decide) (by omega) hnS (lv_at hl 4 rfl) (lv_at hl 0 rfl) dL_law_759 dL_law_760 dL_law_762 dL_law_763 dL_law_764 ?_
  refine sc_at (i := i) (j := 2) hx hb hX hbl hbA hS (by decide) (by omega) hnS (lv_at hl 4 rfl) (lv_at hl 0 rfl) dL_law_765 dL_law_766 dL_law_768 dL_law_769 dL_law_770 ?_
  refine lv_aload_n hx hb dL_law_771 rfl (lv_at hl 1 rfl) ?_
  refine lw_S (As := [.ref a.lo, .int (xs (i + 1)), .int (xs (i + 2)), .ref m.oj]) (rest := []) (hh := [(0, 10, 13, 13)]) ⟨hx, hb, hml, hown, hts⟩ (c_about l g L f _ hN t a.lo m.oj (xs (i + 1)) (xs (i + 2)) E.w _ _ (x_about l hst h hN hd (xs (i + 1)) (xs (i + 2))) h.L_lo h.f_lo hm.L_oj (pj_about h hm) (xe_about)) (vx_cwSW 4 hts gL_law_L_about rfl rfl rfl (by decide +kernel) ⟨Nat.le_of_ble_eq_true rfl, Nat.le_of_ble_eq_true rfl⟩) hK hZ hDS hNC hP hA hS rfl hl.1 rfl (Nat.le_of_ble_eq_true rfl) dL_law_772 ⟨by show cells + 2 ≤ 601024; omega, by show slots + 12 ≤ 7293034; omega⟩ (fun r L2 f1 H locs hG hr hP hS hA => ?_)
  obtain ⟨D1, w1, hB1, hM1, hR⟩ := mid_about h hm hr
  refine lv_istore (lv' := [(5, .int r), (4, .int (nI i)), (3, .ref m.oj), (2, .ref m.mh), (1, .ref a.lo), (0, .ref b)]) hx hb dL_law_775 hl (by decide) rfl (fun ls hl => ?_)
  refine lv_aload_n hx hb dL_law_777 rfl (lv_at hl 3 rfl) ?_
  refine sc_at (i := i) (j := 1) hx hb hX hbl hbA hS (by decide) (by omega) hnS (lv_at hl 5 rfl) (lv_at hl 1 rfl) dL_law_778 dL_law_779 dL_law_781 dL_law_782 dL_law_783 ?_
  refine sc_at (i := i) (j := 2) hx hb hX hbl hbA hS (by decide) (by omega) hnS (lv_at hl 5 rfl) (lv_at hl 1 rfl) dL_law_784 dL_law_785 dL_law_787 dL_law_788 dL_law_789 ?_
  refine rw_V (As := [.int (xs (i + 1)), .int (xs (i + 2))]) (rest := []) ⟨hx, hb, hml, hown, hts⟩ (y_about l hM1 hG.1 h.hn h.hnv hd (xs (i + 1)) (xs (i + 2)) _) (cwV 2 hts gL_law_X6_about rfl rfl rfl (by decide +kernel) ⟨Nat.le_of_ble_eq_true rfl, Nat.le_of_ble_eq_true rfl⟩) hK hP hA hA2 hS hM1.L_mh hM1.f_mh rfl rfl hl.1 rfl (Nat.le_of_ble_eq_true rfl) dL_law_790 ⟨by show cells + 2 ≤ 601024; omega, by show slots + 12 ≤ 7293034; omega⟩ (fun b1 f2 H locs hp hP hS => ?_)
  obtain ⟨D2, E2, M2, hSy2, hth, hok, hM2, hd2⟩ := fin_about h hB1 hM1 hAM hM hR hp
  refine lv_istore (lv' := [(6, .int b1), (5, .int r), (4, .int (nI i)), (3, .ref m.oj), (2, .ref m.mh), (1, .ref a.lo), (0, .ref b)]) hx hb dL_law_793 hl (by decide) rfl (fun ls hl => ?_)
  refine lv_aload_n hx hb dL_law_795 rfl (lv_at hl 4 rfl) ?_
  refine ro_V (As := []) (rest := []) ⟨hx, hb, hml, hown, hts⟩ (m_X6_thrown l g L2 f2 m.mh m.mg m.mr m.mk m.mn m.ms m.nw m.ah D2.n D2.nv E2.th hSy2.2.1.L_mh hSy2.2.1.f_mh) (cwV 0 hts gL_law_X6_thrown rfl rfl rfl (by decide +kernel) ⟨Nat.le_of_ble_eq_true rfl, Nat.le_of_ble_eq_true rfl⟩) hK hP hSy2.2.1.L_mh hSy2.2.1.f_mh rfl rfl hl.1 rfl (Nat.le_of_ble_eq_true rfl) dL_law_796 ⟨by show cells + 2 ≤ 601024; omega, by show slots + 12 ≤ 7293034; omega⟩ (fun q hq => ?_)
  rw [hth] at hq
  subst hq
  refine lv_iload hx hb dL_law_799 (lv_at hl 1 rfl) ?_
  refine lv_icmp_eq (tgt := 806) hx hb dL_law_801 (by decide) (fun _ => ?_) (fun h9 => absurd rfl h9)
  refine lv_iload hx hb dL_law_806 (lv_at hl 1 rfl) ?_
  have hend : W p l e room_1 s mi args below meth c H locs (cells + 2) (slots + 12) Q (F0 mi 823 ls []) := by
    refine lv_goto (tgt := 1266) hx hb dL_law_823 (by decide) ?_
    exact W.widen (by omega) (by omega) (kk L2 f2 D2 E2 M2 H locs ls hSy2 hG.1 hP hA hS (lv_sub hl [2, 3, 4, 5, 6] rfl) hM2 hd2)
  refine lv_if_ne (tgt := 823) hx hb dL_law_808 (by decide) (fun _ => hend) (fun h0 => ?_)
  refine lv_aload_n hx hb dL_law_811 rfl (lv_at hl 3 rfl) ?_
  refine lv_iconst (v := 0) hx hb dL_law_812 (by decide) ?_
  refine pj_ald hx hb hK hP hSy2.2.1.L_oj hSy2.2.1.f_oj dL_law_813 ?_
  refine lv_iload hx hb dL_law_814 (lv_at hl 0 rfl) ?_
  refine lv_i2l (v := b1.toInt64) hx hb dL_law_816 rfl ?_
  refine W.lcmp hx hb dL_law_817 ?_
  exact lv_if_eq (tgt := 823) hx hb dL_law_818 (by decide) (fun _ => hend) (fun h9 => absurd (cmp_0 (hok h0)) h9)
set_option maxHeartbeats 4000000 in
set_option maxRecDepth 100000 in
theorem lc_at {p : Program} {l : Launch} {e : Env} {s : State} {mi : MethodId} {args : Array Value} {below : List Frame} {meth : Method} {c : Code} {Q : State → Prop} {g : GG} {t b nS : Nat} {xs : Nat → Int32} {a : LgA} {m : MdA} {i M cells slots : Nat} {H : Heap} {locs : List Loc} {L : List Nat} {f : Nat → va_E} {D : LgD} {E : MdD} {ls : Array Slot} (C : LC p l s mi args c b nS xs g t) (hSy : Sy a m g t L f D E M) (hN : L.Nodup) (hP : PP g L f H) (hA : ∀ x ∈ L, AA [] s.heap.size x) (hS : va_S (AA [] s.heap.size) s.heap H locs) (hl : lv_has ls 9 (lvB i b a.lo m.mh m.oj)) (hi : i + 4 ≤ nS) (hM : M + 1000 < 2 ^ 30) (hd : D.d + 130 < 2 ^ 30) (hc : cells + 300 ≤ 601024) (hs : slots + 2000 ≤ 7293034) (kk : Cont p l e s mi args below meth c Q g t b a m i M D.d cells slots) : W p l e room_1 s mi args below meth c H locs cells slots Q (F0 mi 826 ls []) := by
  obtain ⟨hx, hb, hml, hown, hts, hK, hZ, hDS, hNC, hX, hbl, hst, hnS⟩ := C
  obtain ⟨h, hm, hAM⟩ := hSy
  have hA2 : ∀ q, s.heap.size ≤ q → AA [] s.heap.size q := fun _ h9 => Or.inr h9
  have hbA : ¬ AA [] s.heap.size b := fun z => z.elim (fun h9 => absurd h9 List.not_mem_nil) (fun h9 => by omega)
  have hl : lv_has ls 9 [(4, .int (nI i)), (3, .ref m.oj), (2, .ref m.mh), (1, .ref a.lo), (0, .ref b)] := hl
  refine lv_aload_n hx hb dL_law_826 rfl (lv_at hl 3 rfl) ?_
  refine sc_at (i := i) (j := 1) hx hb hX hbl hbA hS (by decide) (by omega) hnS (lv_at hl 4 rfl) (lv_at hl 0 rfl) dL_law_827 dL_law_828 dL_law_830 dL_law_831 dL_law_832 ?_
  refine lv_aload_n hx hb dL_law_833 rfl (lv_at hl 1 rfl) ?_
  refine lw_S (As := [.ref a.lo, .int (xs (i + 1)), .ref m.oj]) (rest := []) (hh := [(0, 9, 12, 13)]) ⟨hx, hb, hml, hown, hts⟩ (c_at l g L f _ hN t a.lo m.oj (xs (i + 1)) E.w _ _ (x_at l hst h hN hd (xs (i + 1))) h.L_lo h.f_lo hm.L_oj (pj_at h hm) (xe_at)) (vx_cwSW 3 hts gL_law_L_at rfl rfl rfl (by decide +kernel) ⟨Nat.le_of_ble_eq_true rfl, Nat.le_of_ble_eq_true rfl⟩) hK hZ hDS hNC hP hA hS rfl hl.1 rfl (Nat.le_of_ble_eq_true rfl) dL_law_834 ⟨by show cells + 7 ≤ 601024; omega, by show slots + 42 ≤ 7293034; omega⟩ (fun r L2 f1 H locs hG hr hP hS hA => ?_)
  obtain ⟨D1, w1, hB1, hM1, hR⟩ := mid_at h hm hr
  refine lv_istore (lv' := [(5, .int r), (4, .int (nI i)), (3, .ref m.oj), (2, .ref m.mh), (1, .ref a.lo), (0, .ref b)]) hx hb dL_law_837 hl (by decide) rfl (fun ls hl => ?_)
  refine lv_aload_n hx hb dL_law_839 rfl (lv_at hl 3 rfl) ?_
  refine sc_at (i := i) (j := 1) hx hb hX hbl hbA hS (by decide) (by omega) hnS (lv_at hl 5 rfl) (lv_at hl 1 rfl) dL_law_840 dL_law_841 dL_law_843 dL_law_844 dL_law_845 ?_
  refine rw_V (As := [.int (xs (i + 1))]) (rest := []) ⟨hx, hb, hml, hown, hts⟩ (y_at l hM1 hG.1 h.hn h.hnv hd (xs (i + 1)) _) (cwV 1 hts gL_law_X6_at rfl rfl rfl (by decide +kernel) ⟨Nat.le_of_ble_eq_true rfl, Nat.le_of_ble_eq_true rfl⟩) hK hP hA hA2 hS hM1.L_mh hM1.f_mh rfl rfl hl.1 rfl (Nat.le_of_ble_eq_true rfl) dL_law_846 ⟨by show cells + 7 ≤ 601024; omega, by show slots + 42 ≤ 7293034; omega⟩ (fun b1 f2 H locs hp hP hS => ?_)
  obtain ⟨D2, E2, M2, hSy2, hth, hok, hM2, hd2⟩ := fin_at h hB1 hM1 hAM hM hR hp
  refine lv_istore (lv' := [(6, .int b1), (5, .int r), (4, .int (nI i)), (3, .ref m.oj), (2, .ref m.mh), (1, .ref a.lo), (0, .ref b)]) hx hb dL_law_849 hl (by decide) rfl (fun ls hl => ?_)
  refine lv_aload_n hx hb dL_law_851 rfl (lv_at hl 4 rfl) ?_
  refine ro_V (As := []) (rest := []) ⟨hx, hb, hml, hown, hts⟩ (m_X6_thrown l g L2 f2 m.mh m.mg m.mr m.mk m.mn m.ms m.nw m.ah D2.n D2.nv E2.th hSy2.2.1.L_mh hSy2.2.1.f_mh) (cwV 0 hts gL_law_X6_thrown rfl rfl rfl (by decide +kernel) ⟨Nat.le_of_ble_eq_true rfl, Nat.le_of_ble_eq_true rfl⟩) hK hP hSy2.2.1.L_mh hSy2.2.1.f_mh rfl rfl hl.1 rfl (Nat.le_of_ble_eq_true rfl) dL_law_852 ⟨by show cells + 7 ≤ 601024; omega, by show slots + 42 ≤ 7293034; omega⟩ (fun q hq => ?_)
  rw [hth] at hq
  subst hq
  refine lv_iload hx hb dL_law_855 (lv_at hl 1 rfl) ?_
  refine lv_icmp_eq (tgt := 862) hx hb dL_law_857 (by decide) (fun _ => ?_) (fun h9 => absurd rfl h9)
  refine lv_iload hx hb dL_law_862 (lv_at hl 1 rfl) ?_
  have hend : W p l e room_1 s mi args below meth c H locs (cells + 7) (slots + 42) Q (F0 mi 879 ls []) := by
    refine lv_goto (tgt := 1266) hx hb dL_law_879 (by decide) ?_
    exact W.widen (by omega) (by omega) (kk L2 f2 D2 E2 M2 H locs ls hSy2 hG.1 hP hA hS (lv_sub hl [2, 3, 4, 5, 6] rfl) hM2 hd2)
  refine lv_if_ne (tgt := 879) hx hb dL_law_864 (by decide) (fun _ => hend) (fun h0 => ?_)
  refine lv_aload_n hx hb dL_law_867 rfl (lv_at hl 3 rfl) ?_
  refine lv_iconst (v := 0) hx hb dL_law_868 (by decide) ?_
  refine pj_ald hx hb hK hP hSy2.2.1.L_oj hSy2.2.1.f_oj dL_law_869 ?_
  refine lv_iload hx hb dL_law_870 (lv_at hl 0 rfl) ?_
  refine lv_i2l (v := b1.toInt64) hx hb dL_law_872 rfl ?_
  refine W.lcmp hx hb dL_law_873 ?_
  exact lv_if_eq (tgt := 879) hx hb dL_law_874 (by decide) (fun _ => hend) (fun h9 => absurd (cmp_0 (hok h0)) h9)
set_option maxHeartbeats 4000000 in
set_option maxRecDepth 100000 in
theorem lc_count {p : Program} {l : Launch} {e : Env} {s : State} {mi : MethodId} {args : Array Value} {below : List Frame} {meth : Method} {c : Code} {Q : State → Prop} {g : GG} {t b nS : Nat} {xs : Nat → Int32} {a : LgA} {m : MdA} {i M cells slots : Nat} {H : Heap} {locs : List Loc} {L : List Nat} {f : Nat → va_E} {D : LgD} {E : MdD} {ls : Array Slot} (C : LC p l s mi args c b nS xs g t) (hSy : Sy a m g t L f D E M) (hN : L.Nodup) (hP : PP g L f H) (hA : ∀ x ∈ L, AA [] s.heap.size x) (hS : va_S (AA [] s.heap.size) s.heap H locs) (hl : lv_has ls 9 (lvB i b a.lo m.mh m.oj)) (hi : i + 4 ≤ nS) (hM : M + 1000 < 2 ^ 30) (hd : D.d + 130 < 2 ^ 30) (hc : cells + 300 ≤ 601024) (hs : slots + 2000 ≤ 7293034) (kk : Cont p l e s mi args below meth c Q g t b a m i M D.d cells slots) : W p l e room_1 s mi args below meth c H locs cells slots Q (F0 mi 882 ls []) := by
  obtain ⟨hx, hb, hml, hown, hts, hK, hZ, hDS, hNC, hX, hbl, hst, hnS⟩ := C
  obtain ⟨h, hm, hAM⟩ := hSy
  have hA2 : ∀ q, s.heap.size ≤ q → AA [] s.heap.size q := fun _ h9 => Or.inr h9
  have hbA : ¬ AA [] s.heap.size b := fun z => z.elim (fun h9 => absurd h9 List.not_mem_nil) (fun h9 => by omega)
  have hl : lv_has ls 9 [(4, .int (nI i)), (3, .ref m.oj), (2, .ref m.mh), (1, .ref a.lo), (0, .ref b)] := hl
  refine lv_aload_n hx hb dL_law_882 rfl (lv_at hl 3 rfl) ?_
  refine sc_at (i := i) (j := 1) hx hb hX hbl hbA hS (by decide) (by omega) hnS (lv_at hl 4 rfl) (lv_at hl 0 rfl) dL_law_883 dL_law_884 dL_law_886 dL_law_887 dL_law_888 ?_
  refine lv_aload_n hx hb dL_law_889 rfl (lv_at hl 1 rfl) ?_
  refine lw_S (As := [.ref a.lo, .int (xs (i + 1)), .ref m.oj]) (rest := []) (hh := [(0, 9, 12, 13)]) ⟨hx, hb, hml, hown, hts⟩ (c_count l g L f _ hN t a.lo m.oj (xs (i + 1)) E.w _ _ (x_count l hst h hN hd (xs (i + 1))) h.L_lo h.f_lo hm.L_oj (pj_count h hm) (xe_count)) (vx_cwSW 3 hts gL_law_L_count rfl rfl rfl (by decide +kernel) ⟨Nat.le_of_ble_eq_true rfl, Nat.le_of_ble_eq_true rfl⟩) hK hZ hDS hNC hP hA hS rfl hl.1 rfl (Nat.le_of_ble_eq_true rfl) dL_law_890 ⟨by show cells + 1 ≤ 601024; omega, by show slots + 6 ≤ 7293034; omega⟩ (fun r L2 f1 H locs hG hr hP hS hA => ?_)
  obtain ⟨D1, w1, hB1, hM1, hR⟩ := mid_count h hm hr
  refine lv_istore (lv' := [(5, .int r), (4, .int (nI i)), (3, .ref m.oj), (2, .ref m.mh), (1, .ref a.lo), (0, .ref b)]) hx hb dL_law_893 hl (by decide) rfl (fun ls hl => ?_)
  refine lv_aload_n hx hb dL_law_895 rfl (lv_at hl 3 rfl) ?_
  refine sc_at (i := i) (j := 1) hx hb hX hbl hbA hS (by decide) (by omega) hnS (lv_at hl 5 rfl) (lv_at hl 1 rfl) dL_law_896 dL_law_897 dL_law_899 dL_law_900 dL_law_901 ?_
  refine rw_V (As := [.int (xs (i + 1))]) (rest := []) ⟨hx, hb, hml, hown, hts⟩ (y_count l hM1 hG.1 h.hn h.hnv hd (xs (i + 1)) _) (cwV 1 hts gL_law_X6_count rfl rfl rfl (by decide +kernel) ⟨Nat.le_of_ble_eq_true rfl, Nat.le_of_ble_eq_true rfl⟩) hK hP hA hA2 hS hM1.L_mh hM1.f_mh rfl rfl hl.1 rfl (Nat.le_of_ble_eq_true rfl) dL_law_902 ⟨by show cells + 1 ≤ 601024; omega, by show slots + 6 ≤ 7293034; omega⟩ (fun b1 f2 H locs hp hP hS => ?_)
  obtain ⟨D2, E2, M2, hSy2, hth, hok, hM2, hd2⟩ := fin_count h hB1 hM1 hAM hM hR hp
  refine lv_istore (lv' := [(6, .int b1), (5, .int r), (4, .int (nI i)), (3, .ref m.oj), (2, .ref m.mh), (1, .ref a.lo), (0, .ref b)]) hx hb dL_law_905 hl (by decide) rfl (fun ls hl => ?_)
  refine lv_aload_n hx hb dL_law_907 rfl (lv_at hl 4 rfl) ?_
  refine ro_V (As := []) (rest := []) ⟨hx, hb, hml, hown, hts⟩ (m_X6_thrown l g L2 f2 m.mh m.mg m.mr m.mk m.mn m.ms m.nw m.ah D2.n D2.nv E2.th hSy2.2.1.L_mh hSy2.2.1.f_mh) (cwV 0 hts gL_law_X6_thrown rfl rfl rfl (by decide +kernel) ⟨Nat.le_of_ble_eq_true rfl, Nat.le_of_ble_eq_true rfl⟩) hK hP hSy2.2.1.L_mh hSy2.2.1.f_mh rfl rfl hl.1 rfl (Nat.le_of_ble_eq_true rfl) dL_law_908 ⟨by show cells + 1 ≤ 601024; omega, by show slots + 6 ≤ 7293034; omega⟩ (fun q hq => ?_)
  rw [hth] at hq
  subst hq
  refine lv_iload hx hb dL_law_911 (lv_at hl 1 rfl) ?_
  refine lv_icmp_eq (tgt := 918) hx hb dL_law_913 (by decide) (fun _ => ?_) (fun h9 => absurd rfl h9)
  refine lv_iload hx hb dL_law_918 (lv_at hl 1 rfl) ?_
  have hend : W p l e room_1 s mi args below meth c H locs (cells + 1) (slots + 6) Q (F0 mi 935 ls []) := by
    refine lv_goto (tgt := 1266) hx hb dL_law_935 (by decide) ?_
    exact W.widen (by omega) (by omega) (kk L2 f2 D2 E2 M2 H locs ls hSy2 hG.1 hP hA hS (lv_sub hl [2, 3, 4, 5, 6] rfl) hM2 hd2)
  refine lv_if_ne (tgt := 935) hx hb dL_law_920 (by decide) (fun _ => hend) (fun h0 => ?_)
  refine lv_aload_n hx hb dL_law_923 rfl (lv_at hl 3 rfl) ?_
  refine lv_iconst (v := 0) hx hb dL_law_924 (by decide) ?_
  refine pj_ald hx hb hK hP hSy2.2.1.L_oj hSy2.2.1.f_oj dL_law_925 ?_
  refine lv_iload hx hb dL_law_926 (lv_at hl 0 rfl) ?_
  refine lv_i2l (v := b1.toInt64) hx hb dL_law_928 rfl ?_
  refine W.lcmp hx hb dL_law_929 ?_
  exact lv_if_eq (tgt := 935) hx hb dL_law_930 (by decide) (fun _ => hend) (fun h9 => absurd (cmp_0 (hok h0)) h9)
