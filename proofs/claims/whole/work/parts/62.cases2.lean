set_option maxHeartbeats 4000000 in
set_option maxRecDepth 100000 in
theorem lc_best {p : Program} {l : Launch} {e : Env} {s : State} {mi : MethodId} {args : Array Value} {below : List Frame} {meth : Method} {c : Code} {Q : State → Prop} {g : GG} {t b nS : Nat} {xs : Nat → Int32} {a : LgA} {m : MdA} {i M cells slots : Nat} {H : Heap} {locs : List Loc} {L : List Nat} {f : Nat → va_E} {D : LgD} {E : MdD} {ls : Array Slot} (C : LC p l s mi args c b nS xs g t) (hSy : Sy a m g t L f D E M) (hN : L.Nodup) (hP : PP g L f H) (hA : ∀ x ∈ L, AA [] s.heap.size x) (hS : va_S (AA [] s.heap.size) s.heap H locs) (hl : lv_has ls 9 (lvB i b a.lo m.mh m.oj)) (hi : i + 4 ≤ nS) (hM : M + 1000 < 2 ^ 30) (hd : D.d + 130 < 2 ^ 30) (hc : cells + 300 ≤ 601024) (hs : slots + 2000 ≤ 7293034) (kk : Cont p l e s mi args below meth c Q g t b a m i M D.d cells slots) : W p l e room_1 s mi args below meth c H locs cells slots Q (F0 mi 1198 ls []) := by
  obtain ⟨hx, hb, hml, hown, hts, hK, hZ, hDS, hNC, hX, hbl, hst, hnS⟩ := C
  obtain ⟨h, hm, hAM⟩ := hSy
  have hA2 : ∀ q, s.heap.size ≤ q → AA [] s.heap.size q := fun _ h9 => Or.inr h9
  have hbA : ¬ AA [] s.heap.size b := fun z => z.elim (fun h9 => absurd h9 List.not_mem_nil) (fun h9 => by omega)
  have hl : lv_has ls 9 [(4, .int (nI i)), (3, .ref m.oj), (2, .ref m.mh), (1, .ref a.lo), (0, .ref b)] := hl
  refine lv_aload_n hx hb dL_law_1198 rfl (lv_at hl 3 rfl) ?_
  refine ro_V (As := []) (rest := []) ⟨hx, hb, hml, hown, hts⟩ (x_best l h) (cwV 0 hts gL_law_X4_best rfl rfl rfl (by decide +kernel) ⟨Nat.le_of_ble_eq_true rfl, Nat.le_of_ble_eq_true rfl⟩) hK hP h.L_lo h.f_lo rfl rfl hl.1 rfl (Nat.le_of_ble_eq_true rfl) dL_law_1199 ⟨by show cells ≤ 601024; omega, by show slots ≤ 7293034; omega⟩ (fun r hr => ?_)
  refine lv_aload_n hx hb dL_law_1202 rfl (lv_at hl 2 rfl) ?_
  refine rw_V (As := []) (rest := [.int r]) ⟨hx, hb, hml, hown, hts⟩ (y_best l hm hN h.hn h.hnv hd _) (cwV 0 hts gL_law_X6_best rfl rfl rfl (by decide +kernel) ⟨Nat.le_of_ble_eq_true rfl, Nat.le_of_ble_eq_true rfl⟩) hK hP hA hA2 hS hm.L_mh hm.f_mh rfl rfl hl.1 rfl (Nat.le_of_ble_eq_true rfl) dL_law_1203 ⟨by show cells ≤ 601024; omega, by show slots ≤ 7293034; omega⟩ (fun b1 f2 H locs hp hP hS => ?_)
  obtain ⟨heq, hSy2⟩ := fin_best h hm hAM hp
  refine lv_icmp_eq (tgt := 1266) hx hb dL_law_1206 (by decide) (fun _ => ?_) (fun h9 => absurd (hr.trans heq) h9)
  exact W.widen (by omega) (by omega) (kk L f2 _ _ M H locs ls hSy2 hN hP hA hS hl (by omega) (by show D.d ≤ D.d + 100; omega))
set_option maxHeartbeats 4000000 in
set_option maxRecDepth 100000 in
theorem lc_digest {p : Program} {l : Launch} {e : Env} {s : State} {mi : MethodId} {args : Array Value} {below : List Frame} {meth : Method} {c : Code} {Q : State → Prop} {g : GG} {t b nS : Nat} {xs : Nat → Int32} {a : LgA} {m : MdA} {i M cells slots : Nat} {H : Heap} {locs : List Loc} {L : List Nat} {f : Nat → va_E} {D : LgD} {E : MdD} {ls : Array Slot} (C : LC p l s mi args c b nS xs g t) (hSy : Sy a m g t L f D E M) (hN : L.Nodup) (hP : PP g L f H) (hA : ∀ x ∈ L, AA [] s.heap.size x) (hS : va_S (AA [] s.heap.size) s.heap H locs) (hl : lv_has ls 9 (lvB i b a.lo m.mh m.oj)) (hi : i + 4 ≤ nS) (hM : M + 1000 < 2 ^ 30) (hd : D.d + 130 < 2 ^ 30) (hc : cells + 300 ≤ 601024) (hs : slots + 2000 ≤ 7293034) (kk : Cont p l e s mi args below meth c Q g t b a m i M D.d cells slots) : W p l e room_1 s mi args below meth c H locs cells slots Q (F0 mi 1252 ls []) := by
  obtain ⟨hx, hb, hml, hown, hts, hK, hZ, hDS, hNC, hX, hbl, hst, hnS⟩ := C
  obtain ⟨h, hm, hAM⟩ := hSy
  have hA2 : ∀ q, s.heap.size ≤ q → AA [] s.heap.size q := fun _ h9 => Or.inr h9
  have hbA : ¬ AA [] s.heap.size b := fun z => z.elim (fun h9 => absurd h9 List.not_mem_nil) (fun h9 => by omega)
  have hl : lv_has ls 9 [(4, .int (nI i)), (3, .ref m.oj), (2, .ref m.mh), (1, .ref a.lo), (0, .ref b)] := hl
  refine lv_aload_n hx hb dL_law_1252 rfl (lv_at hl 3 rfl) ?_
  refine tl_V0 (As := []) (rest := []) ⟨hx, hb, hml, hown, hts⟩ (x_digest l hst _ h hN hd) (cwV 0 hts gL_law_X4_digest rfl rfl rfl (by decide +kernel) ⟨Nat.le_of_ble_eq_true rfl, Nat.le_of_ble_eq_true rfl⟩) hK hZ hP hA hS h.L_lo h.f_lo rfl rfl hl.1 rfl (Nat.le_of_ble_eq_true rfl) dL_law_1253 ⟨by show cells + 260 ≤ 601024; omega, by show slots + 1560 ≤ 7293034; omega⟩ (fun r f1 H locs hr hP hS => ?_)
  obtain ⟨hrr, ⟨sx, hsx, e1⟩, hF⟩ := hr
  obtain ⟨hB1, hM1⟩ := mid_digest h hm hsx e1 hF
  refine lv_aload_n hx hb dL_law_1256 rfl (lv_at hl 2 rfl) ?_
  refine rj_V (As := []) (rest := [.long r]) ⟨hx, hb, hml, hown, hts⟩ (y_digest l hM1 hN h.hn h.hnv hd _) (cwV 0 hts gL_law_X6_digest rfl rfl rfl (by decide +kernel) ⟨Nat.le_of_ble_eq_true rfl, Nat.le_of_ble_eq_true rfl⟩) hK hP hA hA2 hS hM1.L_mh hM1.f_mh rfl rfl hl.1 rfl (Nat.le_of_ble_eq_true rfl) dL_law_1257 ⟨by show cells + 260 ≤ 601024; omega, by show slots + 1560 ≤ 7293034; omega⟩ (fun b1 f2 H locs hp hP hS => ?_)
  obtain ⟨heq, E2, hSy2⟩ := fin_digest h hB1 hM1 hAM hrr hp
  refine W.lcmp hx hb dL_law_1260 ?_
  refine lv_if_eq (tgt := 1266) hx hb dL_law_1261 (by decide) (fun _ => ?_) (fun h9 => absurd (cmp_0 heq) h9)
  exact W.widen (by omega) (by omega) (kk L f2 _ _ M H locs ls hSy2 hN hP hA hS hl (by omega) (by show D.d ≤ D.d + 100; omega))
set_option maxHeartbeats 4000000 in
set_option maxRecDepth 100000 in
theorem lc_mean {p : Program} {l : Launch} {e : Env} {s : State} {mi : MethodId} {args : Array Value} {below : List Frame} {meth : Method} {c : Code} {Q : State → Prop} {g : GG} {t b nS : Nat} {xs : Nat → Int32} {a : LgA} {m : MdA} {i M cells slots : Nat} {H : Heap} {locs : List Loc} {L : List Nat} {f : Nat → va_E} {D : LgD} {E : MdD} {ls : Array Slot} {d0 : Drawn} (hd0 : s.drawn.sameBut d0 lw_cs) (C : LC p l (s.setDrawn d0) mi args c b nS xs g t) (hSy : Sy a m g t L f D E M) (hN : L.Nodup) (hP : PP g L f H) (hA : ∀ x ∈ L, AA [] s.heap.size x) (hS : va_S (AA [] s.heap.size) s.heap H locs) (hl : lv_has ls 9 (lvB i b a.lo m.mh m.oj)) (hi : i + 4 ≤ nS) (hM : M + 1000 < 2 ^ 30) (hd : D.d + 130 < 2 ^ 30) (hc : cells + 300 ≤ 601024) (hs : slots + 2000 ≤ 7293034) (kk : ∀ d1 : Drawn, s.drawn.sameBut d1 lw_cs → Cont p l e (s.setDrawn d1) mi args below meth c Q g t b a m i M D.d cells slots) : W p l e room_1 (s.setDrawn d0) mi args below meth c H locs cells slots Q (F0 mi 1211 ls []) := by
  obtain ⟨hx, hb, hml, hown, hts, hK, hZ, hDS, hNC, hX, hbl, hst, hnS⟩ := C
  obtain ⟨h, hm, hAM⟩ := hSy
  have hA2 : ∀ q, s.heap.size ≤ q → AA [] s.heap.size q := fun _ h9 => Or.inr h9
  have hbl : b < s.heap.size := hbl
  have hbA : ¬ AA [] s.heap.size b := fun z => z.elim (fun h9 => absurd h9 List.not_mem_nil) (fun h9 => by omega)
  have hl : lv_has ls 9 [(4, .int (nI i)), (3, .ref m.oj), (2, .ref m.mh), (1, .ref a.lo), (0, .ref b)] := hl
  have hts1 : ∀ d1 : Drawn, ∀ w ∈ wsL_law, w.before args (s.setDrawn d1) = true := fun d1 w hw => (Cond.before_setDrawn args s d1 w).trans ((Cond.before_setDrawn args s d0 w).symm.trans (hts w hw))
  refine lv_aload_n hx hb dL_law_1211 rfl (lv_at hl 3 rfl) ?_
  refine rd_V (As := []) (rest := []) hd0 ⟨hx, hb, hml, hown, hts⟩ (x_mean l _ h hN) (cwV 0 hts gL_law_X4_mean rfl rfl rfl (by decide +kernel) ⟨Nat.le_of_ble_eq_true rfl, Nat.le_of_ble_eq_true rfl⟩) hK hP hA hA2 hS h.L_lo h.f_lo rfl rfl hl.1 rfl (Nat.le_of_ble_eq_true rfl) dL_law_1212 ⟨by show cells ≤ 601024; omega, by show slots ≤ 7293034; omega⟩ (fun r f1 H locs d1 hd1 hr hP hS => ?_)
  obtain ⟨hr, hf1⟩ := hr
  rw [hf1] at hP
  refine lv_dstore (lv' := [(5, .double r), (4, .int (nI i)), (3, .ref m.oj), (2, .ref m.mh), (1, .ref a.lo), (0, .ref b)]) hx hb dL_law_1215 hl (by decide) rfl (fun ls hl => ?_)
  refine lv_aload_n hx hb dL_law_1217 rfl (lv_at hl 3 rfl) ?_
  have hK1 : KK g (s.setDrawn d1) := KK.same (s := s.setDrawn d0) (U := s.setDrawn d1) rfl hK
  refine rd_V (As := []) (rest := []) hd1 ⟨hx, hb, hml, hown, hts1 d1⟩ (y_mean l hm hN h.hn h.hnv hd _) (cwV 0 (hts1 d1) gL_law_X6_mean rfl rfl rfl (by decide +kernel) ⟨Nat.le_of_ble_eq_true rfl, Nat.le_of_ble_eq_true rfl⟩) hK1 hP hA hA2 hS hm.L_mh hm.f_mh rfl rfl hl.1 rfl (Nat.le_of_ble_eq_true rfl) dL_law_1218 ⟨by show cells ≤ 601024; omega, by show slots ≤ 7293034; omega⟩ (fun b1 f2 H locs d2 hd2 hp hP hS => ?_)
  obtain ⟨hb1, hSy2⟩ := fin_mean h hm hAM hp
  have hmc := mean_cmp hr hb1
  refine lv_dstore (lv' := [(7, .double b1), (5, .double r), (4, .int (nI i)), (3, .ref m.oj), (2, .ref m.mh), (1, .ref a.lo), (0, .ref b)]) hx hb dL_law_1221 hl (by decide) rfl (fun ls hl => ?_)
  have hend : W p l e room_1 (s.setDrawn d2) mi args below meth c H locs cells slots Q (F0 mi 1249 ls []) := by
    refine lv_goto (tgt := 1266) hx hb dL_law_1249 (by decide) ?_
    exact W.widen (by omega) (by omega) (kk d2 hd2 L f2 _ _ M H locs ls hSy2 hN hP hA hS (lv_sub hl [2, 3, 4, 5, 6] rfl) (by omega) (by show D.d ≤ D.d + 100; omega))
  refine lv_dload hx hb dL_law_1223 (lv_at hl 1 rfl) ?_
  refine lv_dload hx hb dL_law_1225 (lv_at hl 0 rfl) ?_
  refine lv_dcmp hx hb dL_law_1227 ?_
  refine lv_if_eq (tgt := 1249) hx hb dL_law_1228 (by decide) (fun _ => hend) (fun h1 => ?_)
  refine lv_dload hx hb dL_law_1231 (lv_at hl 1 rfl) ?_
  refine lv_dload hx hb dL_law_1233 (lv_at hl 1 rfl) ?_
  refine lv_dcmp hx hb dL_law_1235 ?_
  refine lv_if_eq (tgt := 1247) hx hb dL_law_1236 (by decide) (fun h2 => ?_) (fun h2 => ?_)
  · exfalso
    rcases hmc with e9 | ⟨n1, _⟩
    · exact h1 (by rw [← e9]; exact h2)
    · exact n1 h2
  refine lv_dload hx hb dL_law_1239 (lv_at hl 0 rfl) ?_
  refine lv_dload hx hb dL_law_1241 (lv_at hl 0 rfl) ?_
  refine lv_dcmp hx hb dL_law_1243 ?_
  refine lv_if_ne (tgt := 1249) hx hb dL_law_1244 (by decide) (fun _ => hend) (fun h3 => ?_)
  exfalso
  rcases hmc with e9 | ⟨_, n2⟩
  · exact h2 (by rw [e9]; exact h3)
  · exact n2 h3
