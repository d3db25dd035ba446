set_option maxHeartbeats 4000000 in
set_option maxRecDepth 100000 in
theorem lc_pass {p : Program} {l : Launch} {e : Env} {s : State} {mi : MethodId} {args : Array Value} {below : List Frame} {meth : Method} {c : Code} {Q : State → Prop} {g : GG} {t b nS : Nat} {xs : Nat → Int32} {a : LgA} {m : MdA} {i M cells slots : Nat} {H : Heap} {locs : List Loc} {L : List Nat} {f : Nat → va_E} {D : LgD} {E : MdD} {ls : Array Slot} (C : LC p l s mi args c b nS xs g t) (hSy : Sy a m g t L f D E M) (hN : L.Nodup) (hP : PP g L f H) (hA : ∀ x ∈ L, AA [] s.heap.size x) (hS : va_S (AA [] s.heap.size) s.heap H locs) (hl : lv_has ls 9 (lvB i b a.lo m.mh m.oj)) (hi : i + 4 ≤ nS) (hM : M + 1000 < 2 ^ 30) (hd : D.d + 130 < 2 ^ 30) (hc : cells + 300 ≤ 601024) (hs : slots + 2000 ≤ 7293034) (kk : Cont p l e s mi args below meth c Q g t b a m i M D.d cells slots) : W p l e room_1 s mi args below meth c H locs cells slots Q (F0 mi 938 ls []) := by
  obtain ⟨hx, hb, hml, hown, hts, hK, hZ, hDS, hNC, hX, hbl, hst, hnS⟩ := C
  obtain ⟨h, hm, hAM⟩ := hSy
  have hA2 : ∀ q, s.heap.size ≤ q → AA [] s.heap.size q := fun _ h9 => Or.inr h9
  have hbA : ¬ AA [] s.heap.size b := fun z => z.elim (fun h9 => absurd h9 List.not_mem_nil) (fun h9 => by omega)
  have hl : lv_has ls 9 [(4, .int (nI i)), (3, .ref m.oj), (2, .ref m.mh), (1, .ref a.lo), (0, .ref b)] := hl
  refine lv_aload_n hx hb dL_law_938 rfl (lv_at hl 3 rfl) ?_
  refine sc_at (i := i) (j := 1) hx hb hX hbl hbA hS (by decide) (by omega) hnS (lv_at hl 4 rfl) (lv_at hl 0 rfl) dL_law_939 dL_law_940 dL_law_942 dL_law_943 dL_law_944 ?_
  refine lv_aload_n hx hb dL_law_945 rfl (lv_at hl 1 rfl) ?_
  refine lw_S (As := [.ref a.lo, .int (xs (i + 1)), .ref m.oj]) (rest := []) (hh := [(0, 9, 12, 15)]) ⟨hx, hb, hml, hown, hts⟩ (c_pass l g L f _ hN t a.lo m.oj (xs (i + 1)) E.w _ _ (x_pass l hst h hN hd (xs (i + 1))) h.L_lo h.f_lo hm.L_oj (pj_pass h hm) (xe_pass)) (vx_cwSW 3 hts gL_law_L_pass rfl rfl rfl (by decide +kernel) ⟨Nat.le_of_ble_eq_true rfl, Nat.le_of_ble_eq_true rfl⟩) hK hZ hDS hNC hP hA hS rfl hl.1 rfl (Nat.le_of_ble_eq_true rfl) dL_law_946 ⟨by show cells + 1 ≤ 601024; omega, by show slots + 6 ≤ 7293034; omega⟩ (fun r L2 f1 H locs hG hr hP hS hA => ?_)
  obtain ⟨D1, w1, hB1, hM1, hR⟩ := mid_pass h hm hr
  refine lv_istore (lv' := [(5, .int r), (4, .int (nI i)), (3, .ref m.oj), (2, .ref m.mh), (1, .ref a.lo), (0, .ref b)]) hx hb dL_law_949 hl (by decide) rfl (fun ls hl => ?_)
  refine lv_aload_n hx hb dL_law_951 rfl (lv_at hl 3 rfl) ?_
  refine sc_at (i := i) (j := 1) hx hb hX hbl hbA hS (by decide) (by omega) hnS (lv_at hl 5 rfl) (lv_at hl 1 rfl) dL_law_952 dL_law_953 dL_law_955 dL_law_956 dL_law_957 ?_
  refine rw_V (As := [.int (xs (i + 1))]) (rest := []) ⟨hx, hb, hml, hown, hts⟩ (y_pass l hM1 hG.1 h.hn h.hnv hd (xs (i + 1)) _) (cwV 1 hts gL_law_X6_pass_ rfl rfl rfl (by decide +kernel) ⟨Nat.le_of_ble_eq_true rfl, Nat.le_of_ble_eq_true rfl⟩) hK hP hA hA2 hS hM1.L_mh hM1.f_mh rfl rfl hl.1 rfl (Nat.le_of_ble_eq_true rfl) dL_law_958 ⟨by show cells + 1 ≤ 601024; omega, by show slots + 6 ≤ 7293034; omega⟩ (fun b1 f2 H locs hp hP hS => ?_)
  obtain ⟨D2, E2, M2, hSy2, hth, hok, hM2, hd2⟩ := fin_pass h hB1 hM1 hAM hM hR hp
  refine lv_istore (lv' := [(6, .int b1), (5, .int r), (4, .int (nI i)), (3, .ref m.oj), (2, .ref m.mh), (1, .ref a.lo), (0, .ref b)]) hx hb dL_law_961 hl (by decide) rfl (fun ls hl => ?_)
  refine lv_aload_n hx hb dL_law_963 rfl (lv_at hl 4 rfl) ?_
  refine ro_V (As := []) (rest := []) ⟨hx, hb, hml, hown, hts⟩ (m_X6_thrown l g L2 f2 m.mh m.mg m.mr m.mk m.mn m.ms m.nw m.ah D2.n D2.nv E2.th hSy2.2.1.L_mh hSy2.2.1.f_mh) (cwV 0 hts gL_law_X6_thrown rfl rfl rfl (by decide +kernel) ⟨Nat.le_of_ble_eq_true rfl, Nat.le_of_ble_eq_true rfl⟩) hK hP hSy2.2.1.L_mh hSy2.2.1.f_mh rfl rfl hl.1 rfl (Nat.le_of_ble_eq_true rfl) dL_law_964 ⟨by show cells + 1 ≤ 601024; omega, by show slots + 6 ≤ 7293034; omega⟩ (fun q hq => ?_)
  rw [hth] at hq
  subst hq
  refine lv_iload hx hb dL_law_967 (lv_at hl 1 rfl) ?_
  refine lv_icmp_eq (tgt := 974) hx hb dL_law_969 (by decide) (fun _ => ?_) (fun h9 => absurd rfl h9)
  refine lv_iload hx hb dL_law_974 (lv_at hl 1 rfl) ?_
  have hend : W p l e room_1 s mi args below meth c H locs (cells + 1) (slots + 6) Q (F0 mi 991 ls []) := by
    refine lv_goto (tgt := 1266) hx hb dL_law_991 (by decide) ?_
    exact W.widen (by omega) (by omega) (kk L2 f2 D2 E2 M2 H locs ls hSy2 hG.1 hP hA hS (lv_sub hl [2, 3, 4, 5, 6] rfl) hM2 hd2)
  refine lv_if_ne (tgt := 991) hx hb dL_law_976 (by decide) (fun _ => hend) (fun h0 => ?_)
  refine lv_aload_n hx hb dL_law_979 rfl (lv_at hl 3 rfl) ?_
  refine lv_iconst (v := 0) hx hb dL_law_980 (by decide) ?_
  refine pj_ald hx hb hK hP hSy2.2.1.L_oj hSy2.2.1.f_oj dL_law_981 ?_
  refine lv_iload hx hb dL_law_982 (lv_at hl 0 rfl) ?_
  refine lv_i2l (v := b1.toInt64) hx hb dL_law_984 rfl ?_
  refine W.lcmp hx hb dL_law_985 ?_
  exact lv_if_eq (tgt := 991) hx hb dL_law_986 (by decide) (fun _ => hend) (fun h9 => absurd (cmp_0 (hok h0)) h9)
set_option maxHeartbeats 4000000 in
set_option maxRecDepth 100000 in
theorem lc_foresee {p : Program} {l : Launch} {e : Env} {s : State} {mi : MethodId} {args : Array Value} {below : List Frame} {meth : Method} {c : Code} {Q : State → Prop} {g : GG} {t b nS : Nat} {xs : Nat → Int32} {a : LgA} {m : MdA} {i M cells slots : Nat} {H : Heap} {locs : List Loc} {L : List Nat} {f : Nat → va_E} {D : LgD} {E : MdD} {ls : Array Slot} (C : LC p l s mi args c b nS xs g t) (hSy : Sy a m g t L f D E M) (hN : L.Nodup) (hP : PP g L f H) (hA : ∀ x ∈ L, AA [] s.heap.size x) (hS : va_S (AA [] s.heap.size) s.heap H locs) (hl : lv_has ls 9 (lvB i b a.lo m.mh m.oj)) (hi : i + 4 ≤ nS) (hM : M + 1000 < 2 ^ 30) (hd : D.d + 130 < 2 ^ 30) (hc : cells + 300 ≤ 601024) (hs : slots + 2000 ≤ 7293034) (kk : Cont p l e s mi args below meth c Q g t b a m i M D.d cells slots) : W p l e room_1 s mi args below meth c H locs cells slots Q (F0 mi 994 ls []) := by
  obtain ⟨hx, hb, hml, hown, hts, hK, hZ, hDS, hNC, hX, hbl, hst, hnS⟩ := C
  obtain ⟨h, hm, hAM⟩ := hSy
  have hA2 : ∀ q, s.heap.size ≤ q → AA [] s.heap.size q := fun _ h9 => Or.inr h9
  have hbA : ¬ AA [] s.heap.size b := fun z => z.elim (fun h9 => absurd h9 List.not_mem_nil) (fun h9 => by omega)
  have hl : lv_has ls 9 [(4, .int (nI i)), (3, .ref m.oj), (2, .ref m.mh), (1, .ref a.lo), (0, .ref b)] := hl
  refine lv_aload_n hx hb dL_law_994 rfl (lv_at hl 3 rfl) ?_
  refine sc_at (i := i) (j := 1) hx hb hX hbl hbA hS (by decide) (by omega) hnS (lv_at hl 4 rfl) (lv_at hl 0 rfl) dL_law_995 dL_law_996 dL_law_998 dL_law_999 dL_law_1000 ?_
  refine sc_at (i := i) (j := 2) hx hb hX hbl hbA hS (by decide) (by omega) hnS (lv_at hl 4 rfl) (lv_at hl 0 rfl) dL_law_1001 dL_law_1002 dL_law_1004 dL_law_1005 dL_law_1006 ?_
  refine lv_aload_n hx hb dL_law_1007 rfl (lv_at hl 1 rfl) ?_
  refine lw_S (As := [.ref a.lo, .int (xs (i + 1)), .int (xs (i + 2)), .ref m.oj]) (rest := []) (hh := [(0, 10, 13, 15), (0, 10, 17, 13)]) ⟨hx, hb, hml, hown, hts⟩ (c_foresee l g L f _ hN t a.lo m.oj (xs (i + 1)) (xs (i + 2)) E.w _ _ (x_foresee l hst h hN hd (xs (i + 1)) (xs (i + 2))) h.L_lo h.f_lo hm.L_oj (pj_foresee h hm) (xe_foresee)) (vx_cwSW 4 hts gL_law_L_foresee rfl rfl rfl (by decide +kernel) ⟨Nat.le_of_ble_eq_true rfl, Nat.le_of_ble_eq_true rfl⟩) hK hZ hDS hNC hP hA hS rfl hl.1 rfl (Nat.le_of_ble_eq_true rfl) dL_law_1008 ⟨by show cells + 8 ≤ 601024; omega, by show slots + 48 ≤ 7293034; omega⟩ (fun r L2 f1 H locs hG hr hP hS hA => ?_)
  obtain ⟨D1, w1, hB1, hM1, hR⟩ := mid_foresee h hm hr
  refine lv_istore (lv' := [(5, .int r), (4, .int (nI i)), (3, .ref m.oj), (2, .ref m.mh), (1, .ref a.lo), (0, .ref b)]) hx hb dL_law_1011 hl (by decide) rfl (fun ls hl => ?_)
  refine lv_aload_n hx hb dL_law_1013 rfl (lv_at hl 3 rfl) ?_
  refine sc_at (i := i) (j := 1) hx hb hX hbl hbA hS (by decide) (by omega) hnS (lv_at hl 5 rfl) (lv_at hl 1 rfl) dL_law_1014 dL_law_1015 dL_law_1017 dL_law_1018 dL_law_1019 ?_
  refine sc_at (i := i) (j := 2) hx hb hX hbl hbA hS (by decide) (by omega) hnS (lv_at hl 5 rfl) (lv_at hl 1 rfl) dL_law_1020 dL_law_1021 dL_law_1023 dL_law_1024 dL_law_1025 ?_
  refine rw_V (As := [.int (xs (i + 1)), .int (xs (i + 2))]) (rest := []) ⟨hx, hb, hml, hown, hts⟩ (y_foresee l hM1 hG.1 h.hn h.hnv hd (xs (i + 1)) (xs (i + 2)) _) (cwV 2 hts gL_law_X6_foresee rfl rfl rfl (by decide +kernel) ⟨Nat.le_of_ble_eq_true rfl, Nat.le_of_ble_eq_true rfl⟩) hK hP hA hA2 hS hM1.L_mh hM1.f_mh rfl rfl hl.1 rfl (Nat.le_of_ble_eq_true rfl) dL_law_1026 ⟨by show cells + 8 ≤ 601024; omega, by show slots + 48 ≤ 7293034; omega⟩ (fun b1 f2 H locs hp hP hS => ?_)
  obtain ⟨D2, E2, M2, hSy2, hth, hok, hM2, hd2⟩ := fin_foresee h hB1 hM1 hAM hM hR hp
  refine lv_istore (lv' := [(6, .int b1), (5, .int r), (4, .int (nI i)), (3, .ref m.oj), (2, .ref m.mh), (1, .ref a.lo), (0, .ref b)]) hx hb dL_law_1029 hl (by decide) rfl (fun ls hl => ?_)
  refine lv_aload_n hx hb dL_law_1031 rfl (lv_at hl 4 rfl) ?_
  refine ro_V (As := []) (rest := []) ⟨hx, hb, hml, hown, hts⟩ (m_X6_thrown l g L2 f2 m.mh m.mg m.mr m.mk m.mn m.ms m.nw m.ah D2.n D2.nv E2.th hSy2.2.1.L_mh hSy2.2.1.f_mh) (cwV 0 hts gL_law_X6_thrown rfl rfl rfl (by decide +kernel) ⟨Nat.le_of_ble_eq_true rfl, Nat.le_of_ble_eq_true rfl⟩) hK hP hSy2.2.1.L_mh hSy2.2.1.f_mh rfl rfl hl.1 rfl (Nat.le_of_ble_eq_true rfl) dL_law_1032 ⟨by show cells + 8 ≤ 601024; omega, by show slots + 48 ≤ 7293034; omega⟩ (fun q hq => ?_)
  rw [hth] at hq
  subst hq
  refine lv_iload hx hb dL_law_1035 (lv_at hl 1 rfl) ?_
  refine lv_icmp_eq (tgt := 1042) hx hb dL_law_1037 (by decide) (fun _ => ?_) (fun h9 => absurd rfl h9)
  refine lv_iload hx hb dL_law_1042 (lv_at hl 1 rfl) ?_
  have hend : W p l e room_1 s mi args below meth c H locs (cells + 8) (slots + 48) Q (F0 mi 1059 ls []) := by
    refine lv_goto (tgt := 1266) hx hb dL_law_1059 (by decide) ?_
    exact W.widen (by omega) (by omega) (kk L2 f2 D2 E2 M2 H locs ls hSy2 hG.1 hP hA hS (lv_sub hl [2, 3, 4, 5, 6] rfl) hM2 hd2)
  refine lv_if_ne (tgt := 1059) hx hb dL_law_1044 (by decide) (fun _ => hend) (fun h0 => ?_)
  refine lv_aload_n hx hb dL_law_1047 rfl (lv_at hl 3 rfl) ?_
  refine lv_iconst (v := 0) hx hb dL_law_1048 (by decide) ?_
  refine pj_ald hx hb hK hP hSy2.2.1.L_oj hSy2.2.1.f_oj dL_law_1049 ?_
  refine lv_iload hx hb dL_law_1050 (lv_at hl 0 rfl) ?_
  refine lv_i2l (v := b1.toInt64) hx hb dL_law_1052 rfl ?_
  refine W.lcmp hx hb dL_law_1053 ?_
  exact lv_if_eq (tgt := 1059) hx hb dL_law_1054 (by decide) (fun _ => hend) (fun h9 => absurd (cmp_0 (hok h0)) h9)
set_option maxHeartbeats 4000000 in
set_option maxRecDepth 100000 in
theorem lc_overtakes {p : Program} {l : Launch} {e : Env} {s : State} {mi : MethodId} {args : Array Value} {below : List Frame} {meth : Method} {c : Code} {Q : State → Prop} {g : GG} {t b nS : Nat} {xs : Nat → Int32} {a : LgA} {m : MdA} {i M cells slots : Nat} {H : Heap} {locs : List Loc} {L : List Nat} {f : Nat → va_E} {D : LgD} {E : MdD} {ls : Array Slot} (C : LC p l s mi args c b nS xs g t) (hSy : Sy a m g t L f D E M) (hN : L.Nodup) (hP : PP g L f H) (hA : ∀ x ∈ L, AA [] s.heap.size x) (hS : va_S (AA [] s.heap.size) s.heap H locs) (hl : lv_has ls 9 (lvB i b a.lo m.mh m.oj)) (hi : i + 4 ≤ nS) (hM : M + 1000 < 2 ^ 30) (hd : D.d + 130 < 2 ^ 30) (hc : cells + 300 ≤ 601024) (hs : slots + 2000 ≤ 7293034) (kk : Cont p l e s mi args below meth c Q g t b a m i M D.d cells slots) : W p l e room_1 s mi args below meth c H locs cells slots Q (F0 mi 1062 ls []) := by
  obtain ⟨hx, hb, hml, hown, hts, hK, hZ, hDS, hNC, hX, hbl, hst, hnS⟩ := C
  obtain ⟨h, hm, hAM⟩ := hSy
  have hA2 : ∀ q, s.heap.size ≤ q → AA [] s.heap.size q := fun _ h9 => Or.inr h9
  have hbA : ¬ AA [] s.heap.size b := fun z => z.elim (fun h9 => absurd h9 List.not_mem_nil) (fun h9 => by omega)
  have hl : lv_has ls 9 [(4, .int (nI i)), (3, .ref m.oj), (2, .ref m.mh), (1, .ref a.lo), (0, .ref b)] := hl
  refine lv_aload_n hx hb dL_law_1062 rfl (lv_at hl 3 rfl) ?_
  refine sc_at (i := i) (j := 1) hx hb hX hbl hbA hS (by decide) (by omega) hnS (lv_at hl 4 rfl) (lv_at hl 0 rfl) dL_law_1063 dL_law_1064 dL_law_1066 dL_law_1067 dL_law_1068 ?_
  refine sc_at (i := i) (j := 2) hx hb hX hbl hbA hS (by decide) (by omega) hnS (lv_at hl 4 rfl) (lv_at hl 0 rfl) dL_law_1069 dL_law_1070 dL_law_1072 dL_law_1073 dL_law_1074 ?_
  refine lv_aload_n hx hb dL_law_1075 rfl (lv_at hl 1 rfl) ?_
  refine lw_S (As := [.ref a.lo, .int (xs (i + 1)), .int (xs (i + 2)), .ref m.oj]) (rest := []) (hh := [(0, 10, 13, 13), (0, 10, 17, 15)]) ⟨hx, hb, hml, hown, hts⟩ (c_overtakes l g L f _ hN t a.lo m.oj (xs (i + 1)) (xs (i + 2)) E.w _ _ (x_overtakes l hst h hN hd (xs (i + 1)) (xs (i + 2))) h.L_lo h.f_lo hm.L_oj (pj_overtakes h hm) (xe_overtakes)) (vx_cwSW 4 hts gL_law_L_overtakes rfl rfl rfl (by decide +kernel) ⟨Nat.le_of_ble_eq_true rfl, Nat.le_of_ble_eq_true rfl⟩) hK hZ hDS hNC hP hA hS rfl hl.1 rfl (Nat.le_of_ble_eq_true rfl) dL_law_1076 ⟨by show cells + 250 ≤ 601024; omega, by show slots + 1500 ≤ 7293034; omega⟩ (fun r L2 f1 H locs hG hr hP hS hA => ?_)
  obtain ⟨D1, w1, hB1, hM1, hR⟩ := mid_overtakes h hm hr
  refine lv_istore (lv' := [(5, .int r), (4, .int (nI i)), (3, .ref m.oj), (2, .ref m.mh), (1, .ref a.lo), (0, .ref b)]) hx hb dL_law_1079 hl (by decide) rfl (fun ls hl => ?_)
  refine lv_aload_n hx hb dL_law_1081 rfl (lv_at hl 3 rfl) ?_
  refine sc_at (i := i) (j := 1) hx hb hX hbl hbA hS (by decide) (by omega) hnS (lv_at hl 5 rfl) (lv_at hl 1 rfl) dL_law_1082 dL_law_1083 dL_law_1085 dL_law_1086 dL_law_1087 ?_
  refine sc_at (i := i) (j := 2) hx hb hX hbl hbA hS (by decide) (by omega) hnS (lv_at hl 5 rfl) (lv_at hl 1 rfl) dL_law_1088 dL_law_1089 dL_law_1091 dL_law_1092 dL_law_1093 ?_
  refine rw_V (As := [.int (xs (i + 1)), .int (xs (i + 2))]) (rest := []) ⟨hx, hb, hml, hown, hts⟩ (y_overtakes l hM1 hG.1 h.hn h.hnv hd (xs (i + 1)) (xs (i + 2)) _) (cwV 2 hts gL_law_X6_overtakes rfl rfl rfl (by decide +kernel) ⟨Nat.le_of_ble_eq_true rfl, Nat.le_of_ble_eq_true rfl⟩) hK hP hA hA2 hS hM1.L_mh hM1.f_mh rfl rfl hl.1 rfl (Nat.le_of_ble_eq_true rfl) dL_law_1094 ⟨by show cells + 250 ≤ 601024; omega, by show slots + 1500 ≤ 7293034; omega⟩ (fun b1 f2 H locs hp hP hS => ?_)
  obtain ⟨D2, E2, M2, hSy2, hth, hok, hM2, hd2⟩ := fin_overtakes h hB1 hM1 hAM hM hR hp
  refine lv_istore (lv' := [(6, .int b1), (5, .int r), (4, .int (nI i)), (3, .ref m.oj), (2, .ref m.mh), (1, .ref a.lo), (0, .ref b)]) hx hb dL_law_1097 hl (by decide) rfl (fun ls hl => ?_)
  refine lv_aload_n hx hb dL_law_1099 rfl (lv_at hl 4 rfl) ?_
  refine ro_V (As := []) (rest := []) ⟨hx, hb, hml, hown, hts⟩ (m_X6_thrown l g L2 f2 m.mh m.mg m.mr m.mk m.mn m.ms m.nw m.ah D2.n D2.nv E2.th hSy2.2.1.L_mh hSy2.2.1.f_mh) (cwV 0 hts gL_law_X6_thrown rfl rfl rfl (by decide +kernel) ⟨Nat.le_of_ble_eq_true rfl, Nat.le_of_ble_eq_true rfl⟩) hK hP hSy2.2.1.L_mh hSy2.2.1.f_mh rfl rfl hl.1 rfl (Nat.le_of_ble_eq_true rfl) dL_law_1100 ⟨by show cells + 250 ≤ 601024; omega, by show slots + 1500 ≤ 7293034; omega⟩ (fun q hq => ?_)
  rw [hth] at hq
  subst hq
  refine lv_iload hx hb dL_law_1103 (lv_at hl 1 rfl) ?_
  refine lv_icmp_eq (tgt := 1110) hx hb dL_law_1105 (by decide) (fun _ => ?_) (fun h9 => absurd rfl h9)
  refine lv_iload hx hb dL_law_1110 (lv_at hl 1 rfl) ?_
  have hend : W p l e room_1 s mi args below meth c H locs (cells + 250) (slots + 1500) Q (F0 mi 1127 ls []) := by
    refine lv_goto (tgt := 1266) hx hb dL_law_1127 (by decide) ?_
    exact W.widen (by omega) (by omega) (kk L2 f2 D2 E2 M2 H locs ls hSy2 hG.1 hP hA hS (lv_sub hl [2, 3, 4, 5, 6] rfl) hM2 hd2)
  refine lv_if_ne (tgt := 1127) hx hb dL_law_1112 (by decide) (fun _ => hend) (fun h0 => ?_)
  refine lv_aload_n hx hb dL_law_1115 rfl (lv_at hl 3 rfl) ?_
  refine lv_iconst (v := 0) hx hb dL_law_1116 (by decide) ?_
  refine pj_ald hx hb hK hP hSy2.2.1.L_oj hSy2.2.1.f_oj dL_law_1117 ?_
  refine lv_iload hx hb dL_law_1118 (lv_at hl 0 rfl) ?_
  refine lv_i2l (v := b1.toInt64) hx hb dL_law_1120 rfl ?_
  refine W.lcmp hx hb dL_law_1121 ?_
  exact lv_if_eq (tgt := 1127) hx hb dL_law_1122 (by decide) (fun _ => hend) (fun h9 => absurd (cmp_0 (hok h0)) h9)
set_option maxHeartbeats 4000000 in
set_option maxRecDepth 100000 in
theorem lc_advise {p : Program} {l : Launch} {e : Env} {s : State} {mi : MethodId} {args : Array Value} {below : List Frame} {meth : Method} {c : Code} {Q : State → Prop} {g : GG} {t b nS : Nat} {xs : Nat → Int32} {a : LgA} {m : MdA} {i M cells slots : Nat} {H : Heap} {locs : List Loc} {L : List Nat} {f : Nat → va_E} {D : LgD} {E : MdD} {ls : Array Slot} (C : LC p l s mi args c b nS xs g t) (hSy : Sy a m g t L f D E M) (hN : L.Nodup) (hP : PP g L f H) (hA : ∀ x ∈ L, AA [] s.heap.size x) (hS : va_S (AA [] s.heap.size) s.heap H locs) (hl : lv_has ls 9 (lvB i b a.lo m.mh m.oj)) (hi : i + 4 ≤ nS) (hM : M + 1000 < 2 ^ 30) (hd : D.d + 130 < 2 ^ 30) (hc : cells + 300 ≤ 601024) (hs : slots + 2000 ≤ 7293034) (kk : Cont p l e s mi args below meth c Q g t b a m i M D.d cells slots) : W p l e room_1 s mi args below meth c H locs cells slots Q (F0 mi 1130 ls []) := by
  obtain ⟨hx, hb, hml, hown, hts, hK, hZ, hDS, hNC, hX, hbl, hst, hnS⟩ := C
  obtain ⟨h, hm, hAM⟩ := hSy
  have hA2 : ∀ q, s.heap.size ≤ q → AA [] s.heap.size q := fun _ h9 => Or.inr h9
  have hbA : ¬ AA [] s.heap.size b := fun z => z.elim (fun h9 => absurd h9 List.not_mem_nil) (fun h9 => by omega)
  have hl : lv_has ls 9 [(4, .int (nI i)), (3, .ref m.oj), (2, .ref m.mh), (1, .ref a.lo), (0, .ref b)] := hl
  refine lv_aload_n hx hb dL_law_1130 rfl (lv_at hl 3 rfl) ?_
  refine sc_at (i := i) (j := 1) hx hb hX hbl hbA hS (by decide) (by omega) hnS (lv_at hl 4 rfl) (lv_at hl 0 rfl) dL_law_1131 dL_law_1132 dL_law_1134 dL_law_1135 dL_law_1136 ?_
  refine sc_at (i := i) (j := 2) hx hb hX hbl hbA hS (by decide) (by omega) hnS (lv_at hl 4 rfl) (lv_at hl 0 rfl) dL_law_1137 dL_law_1138 dL_law_1140 dL_law_1141 dL_law_1142 ?_
  refine lv_aload_n hx hb dL_law_1143 rfl (lv_at hl 1 rfl) ?_
  refine lw_S (As := [.ref a.lo, .int (xs (i + 1)), .int (xs (i + 2)), .ref m.oj]) (rest := []) (hh := [(0, 10, 13, 13), (0, 10, 17, 15)]) ⟨hx, hb, hml, hown, hts⟩ (c_advise l g L f _ hN t a.lo m.oj (xs (i + 1)) (xs (i + 2)) E.w _ _ (x_advise l hst h hN hd (xs (i + 1)) (xs (i + 2))) h.L_lo h.f_lo hm.L_oj (pj_advise h hm) (xe_advise)) (vx_cwSW 4 hts gL_law_L_advise rfl rfl rfl (by decide +kernel) ⟨Nat.le_of_ble_eq_true rfl, Nat.le_of_ble_eq_true rfl⟩) hK hZ hDS hNC hP hA hS rfl hl.1 rfl (Nat.le_of_ble_eq_true rfl) dL_law_1144 ⟨by show cells + 40 ≤ 601024; omega, by show slots + 240 ≤ 7293034; omega⟩ (fun r L2 f1 H locs hG hr hP hS hA => ?_)
  obtain ⟨D1, w1, hB1, hM1, hR⟩ := mid_advise h hm hr
  refine lv_istore (lv' := [(5, .int r), (4, .int (nI i)), (3, .ref m.oj), (2, .ref m.mh), (1, .ref a.lo), (0, .ref b)]) hx hb dL_law_1147 hl (by decide) rfl (fun ls hl => ?_)
  refine lv_aload_n hx hb dL_law_1149 rfl (lv_at hl 3 rfl) ?_
  refine sc_at (i := i) (j := 1) hx hb hX hbl hbA hS (by decide) (by omega) hnS (lv_at hl 5 rfl) (lv_at hl 1 rfl) dL_law_1150 dL_law_1151 dL_law_1153 dL_law_1154 dL_law_1155 ?_
  refine sc_at (i := i) (j := 2) hx hb hX hbl hbA hS (by decide) (by omega) hnS (lv_at hl 5 rfl) (lv_at hl 1 rfl) dL_law_1156 dL_law_1157 dL_law_1159 dL_law_1160 dL_law_1161 ?_
  refine rw_V (As := [.int (xs (i + 1)), .int (xs (i + 2))]) (rest := []) ⟨hx, hb, hml, hown, hts⟩ (y_advise l hM1 hG.1 h.hn h.hnv hd (xs (i + 1)) (xs (i + 2)) _) (cwV 2 hts gL_law_X6_advise rfl rfl rfl (by decide +kernel) ⟨Nat.le_of_ble_eq_true rfl, Nat.le_of_ble_eq_true rfl⟩) hK hP hA hA2 hS hM1.L_mh hM1.f_mh rfl rfl hl.1 rfl (Nat.le_of_ble_eq_true rfl) dL_law_1162 ⟨by show cells + 40 ≤ 601024; omega, by show slots + 240 ≤ 7293034; omega⟩ (fun b1 f2 H locs hp hP hS => ?_)
  obtain ⟨D2, E2, M2, hSy2, hth, hok, hM2, hd2⟩ := fin_advise h hB1 hM1 hAM hM hR hp
  refine lv_istore (lv' := [(6, .int b1), (5, .int r), (4, .int (nI i)), (3, .ref m.oj), (2, .ref m.mh), (1, .ref a.lo), (0, .ref b)]) hx hb dL_law_1165 hl (by decide) rfl (fun ls hl => ?_)
  refine lv_aload_n hx hb dL_law_1167 rfl (lv_at hl 4 rfl) ?_
  refine ro_V (As := []) (rest := []) ⟨hx, hb, hml, hown, hts⟩ (m_X6_thrown l g L2 f2 m.mh m.mg m.mr m.mk m.mn m.ms m.nw m.ah D2.n D2.nv E2.th hSy2.2.1.L_mh hSy2.2.1.f_mh) (cwV 0 hts gL_law_X6_thrown rfl rfl rfl (by decide +kernel) ⟨Nat.le_of_ble_eq_true rfl, Nat.le_of_ble_eq_true rfl⟩) hK hP hSy2.2.1.L_mh hSy2.2.1.f_mh rfl rfl hl.1 rfl (Nat.le_of_ble_eq_true rfl) dL_law_1168 ⟨by show cells + 40 ≤ 601024; omega, by show slots + 240 ≤ 7293034; omega⟩ (fun q hq => ?_)
  rw [hth] at hq
  subst hq
  refine lv_iload hx hb dL_law_1171 (lv_at hl 1 rfl) ?_
  refine lv_icmp_eq (tgt := 1178) hx hb dL_law_1173 (by decide) (fun _ => ?_) (fun h9 => absurd rfl h9)
  refine lv_iload hx hb dL_law_1178 (lv_at hl 1 rfl) ?_
  have hend : W p l e room_1 s mi args below meth c H locs (cells + 40) (slots + 240) Q (F0 mi 1195 ls []) := by
    refine lv_goto (tgt := 1266) hx hb dL_law_1195 (by decide) ?_
    exact W.widen (by omega) (by omega) (kk L2 f2 D2 E2 M2 H locs ls hSy2 hG.1 hP hA hS (lv_sub hl [2, 3, 4, 5, 6] rfl) hM2 hd2)
  refine lv_if_ne (tgt := 1195) hx hb dL_law_1180 (by decide) (fun _ => hend) (fun h0 => ?_)
  refine lv_aload_n hx hb dL_law_1183 rfl (lv_at hl 3 rfl) ?_
  refine lv_iconst (v := 0) hx hb dL_law_1184 (by decide) ?_
  refine pj_ald hx hb hK hP hSy2.2.1.L_oj hSy2.2.1.f_oj dL_law_1185 ?_
  refine lv_iload hx hb dL_law_1186 (lv_at hl 0 rfl) ?_
  refine lv_i2l (v := b1.toInt64) hx hb dL_law_1188 rfl ?_
  refine W.lcmp hx hb dL_law_1189 ?_
  exact lv_if_eq (tgt := 1195) hx hb dL_law_1190 (by decide) (fun _ => hend) (fun h9 => absurd (cmp_0 (hok h0)) h9)
