set_option maxHeartbeats 4000000 in
set_option maxRecDepth 100000 in
theorem lc_setGlass {p : Program} {l : Launch} {e : Env} {s : State} {mi : MethodId} {args : Array Value} {below : List Frame} {meth : Method} {c : Code} {Q : State → Prop} {g : GG} {t b nS : Nat} {xs : Nat → Int32} {a : LgA} {m : MdA} {i M cells slots : Nat} {H : Heap} {locs : List Loc} {L : List Nat} {f : Nat → va_E} {D : LgD} {E : MdD} {ls : Array Slot} (C : LC p l s mi args c b nS xs g t) (hSy : Sy a m g t L f D E M) (hN : L.Nodup) (hP : PP g L f H) (hA : ∀ x ∈ L, AA [] s.heap.size x) (hS : va_S (AA [] s.heap.size) s.heap H locs) (hl : lv_has ls 9 (lvB i b a.lo m.mh m.oj)) (hi : i + 4 ≤ nS) (hM : M + 1000 < 2 ^ 30) (hd : D.d + 130 < 2 ^ 30) (hc : cells + 300 ≤ 601024) (hs : slots + 2000 ≤ 7293034) (kk : Cont p l e s mi args below meth c Q g t b a m i M D.d cells slots) : W p l e room_1 s mi args below meth c H locs cells slots Q (F0 mi 128 ls []) := by
  obtain ⟨hx, hb, hml, hown, hts, hK, hZ, hDS, hNC, hX, hbl, hst, hnS⟩ := C
  obtain ⟨h, hm, hAM⟩ := hSy
  have hA2 : ∀ q, s.heap.size ≤ q → AA [] s.heap.size q := fun _ h9 => Or.inr h9
  have hbA : ¬ AA [] s.heap.size b := fun z => z.elim (fun h9 => absurd h9 List.not_mem_nil) (fun h9 => by omega)
  have hl : lv_has ls 9 [(4, .int (nI i)), (3, .ref m.oj), (2, .ref m.mh), (1, .ref a.lo), (0, .ref b)] := hl
  refine lv_aload_n hx hb dL_law_128 rfl (lv_at hl 3 rfl) ?_
  refine sc_at (i := i) (j := 1) hx hb hX hbl hbA hS (by decide) (by omega) hnS (lv_at hl 4 rfl) (lv_at hl 0 rfl) dL_law_129 dL_law_130 dL_law_132 dL_law_133 dL_law_134 ?_
  refine sc_at (i := i) (j := 2) hx hb hX hbl hbA hS (by decide) (by omega) hnS (lv_at hl 4 rfl) (lv_at hl 0 rfl) dL_law_135 dL_law_136 dL_law_138 dL_law_139 dL_law_140 ?_
  refine lv_aload_n hx hb dL_law_141 rfl (lv_at hl 1 rfl) ?_
  refine lw_S (As := [.ref a.lo, .int (xs (i + 1)), .int (xs (i + 2)), .ref m.oj]) (rest := []) (hh := [(0, 10, 13, 13), (0, 10, 17, 15)]) ⟨hx, hb, hml, hown, hts⟩ (c_setGlass l g L f _ hN t a.lo m.oj (xs (i + 1)) (xs (i + 2)) E.w _ _ (x_setGlass l hst h hN hd (xs (i + 1)) (xs (i + 2))) h.L_lo h.f_lo hm.L_oj (pj_setGlass h hm) (xe_setGlass)) (vx_cwSW 4 hts gL_law_L_setGlass rfl rfl rfl (by decide +kernel) ⟨Nat.le_of_ble_eq_true rfl, Nat.le_of_ble_eq_true rfl⟩) hK hZ hDS hNC hP hA hS rfl hl.1 rfl (Nat.le_of_ble_eq_true rfl) dL_law_142 ⟨by show cells + 2 ≤ 601024; omega, by show slots + 12 ≤ 7293034; omega⟩ (fun r L2 f1 H locs hG hr hP hS hA => ?_)
  obtain ⟨D1, w1, hB1, hM1, hR⟩ := mid_setGlass h hm hr
  refine lv_istore (lv' := [(5, .int r), (4, .int (nI i)), (3, .ref m.oj), (2, .ref m.mh), (1, .ref a.lo), (0, .ref b)]) hx hb dL_law_145 hl (by decide) rfl (fun ls hl => ?_)
  refine lv_aload_n hx hb dL_law_147 rfl (lv_at hl 3 rfl) ?_
  refine sc_at (i := i) (j := 1) hx hb hX hbl hbA hS (by decide) (by omega) hnS (lv_at hl 5 rfl) (lv_at hl 1 rfl) dL_law_148 dL_law_149 dL_law_151 dL_law_152 dL_law_153 ?_
  refine sc_at (i := i) (j := 2) hx hb hX hbl hbA hS (by decide) (by omega) hnS (lv_at hl 5 rfl) (lv_at hl 1 rfl) dL_law_154 dL_law_155 dL_law_157 dL_law_158 dL_law_159 ?_
  refine rw_V (As := [.int (xs (i + 1)), .int (xs (i + 2))]) (rest := []) ⟨hx, hb, hml, hown, hts⟩ (y_setGlass l hM1 hG.1 h.hn h.hnv hd (xs (i + 1)) (xs (i + 2)) _) (cwV 2 hts gL_law_X6_setGlass rfl rfl rfl (by decide +kernel) ⟨Nat.le_of_ble_eq_true rfl, Nat.le_of_ble_eq_true rfl⟩) hK hP hA hA2 hS hM1.L_mh hM1.f_mh rfl rfl hl.1 rfl (Nat.le_of_ble_eq_true rfl) dL_law_160 ⟨by show cells + 2 ≤ 601024; omega, by show slots + 12 ≤ 7293034; omega⟩ (fun b1 f2 H locs hp hP hS => ?_)
  obtain ⟨D2, E2, M2, hSy2, hth, hok, hM2, hd2⟩ := fin_setGlass h hB1 hM1 hAM hM hR hp
  refine lv_istore (lv' := [(6, .int b1), (5, .int r), (4, .int (nI i)), (3, .ref m.oj), (2, .ref m.mh), (1, .ref a.lo), (0, .ref b)]) hx hb dL_law_163 hl (by decide) rfl (fun ls hl => ?_)
  refine lv_aload_n hx hb dL_law_165 rfl (lv_at hl 4 rfl) ?_
  refine ro_V (As := []) (rest := []) ⟨hx, hb, hml, hown, hts⟩ (m_X6_thrown l g L2 f2 m.mh m.mg m.mr m.mk m.mn m.ms m.nw m.ah D2.n D2.nv E2.th hSy2.2.1.L_mh hSy2.2.1.f_mh) (cwV 0 hts gL_law_X6_thrown rfl rfl rfl (by decide +kernel) ⟨Nat.le_of_ble_eq_true rfl, Nat.le_of_ble_eq_true rfl⟩) hK hP hSy2.2.1.L_mh hSy2.2.1.f_mh rfl rfl hl.1 rfl (Nat.le_of_ble_eq_true rfl) dL_law_166 ⟨by show cells + 2 ≤ 601024; omega, by show slots + 12 ≤ 7293034; omega⟩ (fun q hq => ?_)
  rw [hth] at hq
  subst hq
  refine lv_iload hx hb dL_law_169 (lv_at hl 1 rfl) ?_
  refine lv_icmp_eq (tgt := 176) hx hb dL_law_171 (by decide) (fun _ => ?_) (fun h9 => absurd rfl h9)
  refine lv_iload hx hb dL_law_176 (lv_at hl 1 rfl) ?_
  have hend : W p l e room_1 s mi args below meth c H locs (cells + 2) (slots + 12) Q (F0 mi 193 ls []) := by
    refine lv_goto (tgt := 1266) hx hb dL_law_193 (by decide) ?_
    exact W.widen (by omega) (by omega) (kk L2 f2 D2 E2 M2 H locs ls hSy2 hG.1 hP hA hS (lv_sub hl [2, 3, 4, 5, 6] rfl) hM2 hd2)
  refine lv_if_ne (tgt := 193) hx hb dL_law_178 (by decide) (fun _ => hend) (fun h0 => ?_)
  refine lv_aload_n hx hb dL_law_181 rfl (lv_at hl 3 rfl) ?_
  refine lv_iconst (v := 0) hx hb dL_law_182 (by decide) ?_
  refine pj_ald hx hb hK hP hSy2.2.1.L_oj hSy2.2.1.f_oj dL_law_183 ?_
  refine lv_iload hx hb dL_law_184 (lv_at hl 0 rfl) ?_
  refine lv_i2l (v := b1.toInt64) hx hb dL_law_186 rfl ?_
  refine W.lcmp hx hb dL_law_187 ?_
  exact lv_if_eq (tgt := 193) hx hb dL_law_188 (by decide) (fun _ => hend) (fun h9 => absurd (cmp_0 (hok h0)) h9)
set_option maxHeartbeats 4000000 in
set_option maxRecDepth 100000 in
theorem lc_setRain {p : Program} {l : Launch} {e : Env} {s : State} {mi : MethodId} {args : Array Value} {below : List Frame} {meth : Method} {c : Code} {Q : State → Prop} {g : GG} {t b nS : Nat} {xs : Nat → Int32} {a : LgA} {m : MdA} {i M cells slots : Nat} {H : Heap} {locs : List Loc} {L : List Nat} {f : Nat → va_E} {D : LgD} {E : MdD} {ls : Array Slot} (C : LC p l s mi args c b nS xs g t) (hSy : Sy a m g t L f D E M) (hN : L.Nodup) (hP : PP g L f H) (hA : ∀ x ∈ L, AA [] s.heap.size x) (hS : va_S (AA [] s.heap.size) s.heap H locs) (hl : lv_has ls 9 (lvB i b a.lo m.mh m.oj)) (hi : i + 4 ≤ nS) (hM : M + 1000 < 2 ^ 30) (hd : D.d + 130 < 2 ^ 30) (hc : cells + 300 ≤ 601024) (hs : slots + 2000 ≤ 7293034) (kk : Cont p l e s mi args below meth c Q g t b a m i M D.d cells slots) : W p l e room_1 s mi args below meth c H locs cells slots Q (F0 mi 196 ls []) := by
  obtain ⟨hx, hb, hml, hown, hts, hK, hZ, hDS, hNC, hX, hbl, hst, hnS⟩ := C
  obtain ⟨h, hm, hAM⟩ := hSy
  have hA2 : ∀ q, s.heap.size ≤ q → AA [] s.heap.size q := fun _ h9 => Or.inr h9
  have hbA : ¬ AA [] s.heap.size b := fun z => z.elim (fun h9 => absurd h9 List.not_mem_nil) (fun h9 => by omega)
  have hl : lv_has ls 9 [(4, .int (nI i)), (3, .ref m.oj), (2, .ref m.mh), (1, .ref a.lo), (0, .ref b)] := hl
  by_cases hz : xs (i + 2) = 0
  · skip
    refine lv_aload_n hx hb dL_law_196 rfl (lv_at hl 3 rfl) ?_
    refine sc_at (i := i) (j := 1) hx hb hX hbl hbA hS (by decide) (by omega) hnS (lv_at hl 4 rfl) (lv_at hl 0 rfl) dL_law_197 dL_law_198 dL_law_200 dL_law_201 dL_law_202 ?_
    refine sc_at (i := i) (j := 2) hx hb hX hbl hbA hS (by decide) (by omega) hnS (lv_at hl 4 rfl) (lv_at hl 0 rfl) dL_law_203 dL_law_204 dL_law_206 dL_law_207 dL_law_208 ?_
    refine lv_if_eq (tgt := 216) hx hb dL_law_209 (by decide) (fun _ => ?_) (fun h9 => absurd hz h9)
    refine lv_iconst (v := b2i false) hx hb dL_law_216 (by decide) ?_
    refine lv_aload_n hx hb dL_law_217 rfl (lv_at hl 1 rfl) ?_
    refine lw_S (As := [.ref a.lo, .int (xs (i + 1)), .int (b2i false), .ref m.oj]) (rest := []) (hh := [(0, 17, 20, 13)]) ⟨hx, hb, hml, hown, hts⟩ (c_setRain l g L f _ hN t a.lo m.oj (xs (i + 1)) (b2i false) E.w _ _ (x_setRain l hst h hN hd (xs (i + 1)) false) h.L_lo h.f_lo hm.L_oj (pj_setRain h hm) (xe_setRain)) (vx_cwSW 4 hts gL_law_L_setRain rfl rfl rfl (by decide +kernel) ⟨Nat.le_of_ble_eq_true rfl, Nat.le_of_ble_eq_true rfl⟩) hK hZ hDS hNC hP hA hS rfl hl.1 rfl (Nat.le_of_ble_eq_true rfl) dL_law_218 ⟨by show cells + 1 ≤ 601024; omega, by show slots + 6 ≤ 7293034; omega⟩ (fun r L2 f1 H locs hG hr hP hS hA => ?_)
    obtain ⟨D1, w1, hB1, hM1, hR⟩ := mid_setRain h hm hr
    refine lv_istore (lv' := [(5, .int r), (4, .int (nI i)), (3, .ref m.oj), (2, .ref m.mh), (1, .ref a.lo), (0, .ref b)]) hx hb dL_law_221 hl (by decide) rfl (fun ls hl => ?_)
    refine lv_aload_n hx hb dL_law_223 rfl (lv_at hl 3 rfl) ?_
    refine sc_at (i := i) (j := 1) hx hb hX hbl hbA hS (by decide) (by omega) hnS (lv_at hl 5 rfl) (lv_at hl 1 rfl) dL_law_224 dL_law_225 dL_law_227 dL_law_228 dL_law_229 ?_
    refine sc_at (i := i) (j := 2) hx hb hX hbl hbA hS (by decide) (by omega) hnS (lv_at hl 5 rfl) (lv_at hl 1 rfl) dL_law_230 dL_law_231 dL_law_233 dL_law_234 dL_law_235 ?_
    refine lv_if_eq (tgt := 243) hx hb dL_law_236 (by decide) (fun _ => ?_) (fun h9 => absurd hz h9)
    refine lv_iconst (v := b2i false) hx hb dL_law_243 (by decide) ?_
    refine rw_V (As := [.int (xs (i + 1)), .int (b2i false)]) (rest := []) ⟨hx, hb, hml, hown, hts⟩ (y_setRain l hM1 hG.1 h.hn h.hnv hd (xs (i + 1)) false _) (cwV 2 hts gL_law_X6_setRain rfl rfl rfl (by decide +kernel) ⟨Nat.le_of_ble_eq_true rfl, Nat.le_of_ble_eq_true rfl⟩) hK hP hA hA2 hS hM1.L_mh hM1.f_mh rfl rfl hl.1 rfl (Nat.le_of_ble_eq_true rfl) dL_law_244 ⟨by show cells + 1 ≤ 601024; omega, by show slots + 6 ≤ 7293034; omega⟩ (fun b1 f2 H locs hp hP hS => ?_)
    obtain ⟨D2, E2, M2, hSy2, hth, hok, hM2, hd2⟩ := fin_setRain h hB1 hM1 hAM hM hR hp
    refine lv_istore (lv' := [(6, .int b1), (5, .int r), (4, .int (nI i)), (3, .ref m.oj), (2, .ref m.mh), (1, .ref a.lo), (0, .ref b)]) hx hb dL_law_247 hl (by decide) rfl (fun ls hl => ?_)
    refine lv_aload_n hx hb dL_law_249 rfl (lv_at hl 4 rfl) ?_
    refine ro_V (As := []) (rest := []) ⟨hx, hb, hml, hown, hts⟩ (m_X6_thrown l g L2 f2 m.mh m.mg m.mr m.mk m.mn m.ms m.nw m.ah D2.n D2.nv E2.th hSy2.2.1.L_mh hSy2.2.1.f_mh) (cwV 0 hts gL_law_X6_thrown rfl rfl rfl (by decide +kernel) ⟨Nat.le_of_ble_eq_true rfl, Nat.le_of_ble_eq_true rfl⟩) hK hP hSy2.2.1.L_mh hSy2.2.1.f_mh rfl rfl hl.1 rfl (Nat.le_of_ble_eq_true rfl) dL_law_250 ⟨by show cells + 1 ≤ 601024; omega, by show slots + 6 ≤ 7293034; omega⟩ (fun q hq => ?_)
    rw [hth] at hq
    subst hq
    refine lv_iload hx hb dL_law_253 (lv_at hl 1 rfl) ?_
    refine lv_icmp_eq (tgt := 260) hx hb dL_law_255 (by decide) (fun _ => ?_) (fun h9 => absurd rfl h9)
    refine lv_iload hx hb dL_law_260 (lv_at hl 1 rfl) ?_
    have hend : W p l e room_1 s mi args below meth c H locs (cells + 1) (slots + 6) Q (F0 mi 284 ls []) := by
      refine lv_goto (tgt := 1266) hx hb dL_law_284 (by decide) ?_
      exact W.widen (by omega) (by omega) (kk L2 f2 D2 E2 M2 H locs ls hSy2 hG.1 hP hA hS (lv_sub hl [2, 3, 4, 5, 6] rfl) hM2 hd2)
    refine lv_if_ne (tgt := 284) hx hb dL_law_262 (by decide) (fun _ => hend) (fun h0 => ?_)
    refine lv_aload_n hx hb dL_law_265 rfl (lv_at hl 3 rfl) ?_
    refine lv_iconst (v := 0) hx hb dL_law_266 (by decide) ?_
    refine pj_ald hx hb hK hP hSy2.2.1.L_oj hSy2.2.1.f_oj dL_law_267 ?_
    refine lv_iload hx hb dL_law_268 (lv_at hl 0 rfl) ?_
    refine lv_if_eq (tgt := 277) hx hb dL_law_270 (by decide) (fun hb1 => ?_) (fun hb1 => ?_)
    · refine lv_lconst (v := 0) hx hb dL_law_277 (by decide) ?_
      refine W.lcmp hx hb dL_law_278 ?_
      exact lv_if_eq (tgt := 284) hx hb dL_law_279 (by decide) (fun _ => hend) (fun h9 => absurd (cmp_0 ((hok h0).trans (if_pos hb1))) h9)
    · refine lv_lconst (v := 1) hx hb dL_law_273 (by decide) ?_
      refine lv_goto (tgt := 278) hx hb dL_law_274 (by decide) ?_
      refine W.lcmp hx hb dL_law_278 ?_
      exact lv_if_eq (tgt := 284) hx hb dL_law_279 (by decide) (fun _ => hend) (fun h9 => absurd (cmp_0 ((hok h0).trans (if_neg hb1))) h9)
  · skip
    refine lv_aload_n hx hb dL_law_196 rfl (lv_at hl 3 rfl) ?_
    refine sc_at (i := i) (j := 1) hx hb hX hbl hbA hS (by decide) (by omega) hnS (lv_at hl 4 rfl) (lv_at hl 0 rfl) dL_law_197 dL_law_198 dL_law_200 dL_law_201 dL_law_202 ?_
    refine sc_at (i := i) (j := 2) hx hb hX hbl hbA hS (by decide) (by omega) hnS (lv_at hl 4 rfl) (lv_at hl 0 rfl) dL_law_203 dL_law_204 dL_law_206 dL_law_207 dL_law_208 ?_
    refine lv_if_eq (tgt := 216) hx hb dL_law_209 (by decide) (fun h9 => absurd h9 hz) (fun _ => ?_)
    refine lv_iconst (v := b2i true) hx hb dL_law_212 (by decide) ?_
    refine lv_goto (tgt := 217) hx hb dL_law_213 (by decide) ?_
    refine lv_aload_n hx hb dL_law_217 rfl (lv_at hl 1 rfl) ?_
    refine lw_S (As := [.ref a.lo, .int (xs (i + 1)), .int (b2i true), .ref m.oj]) (rest := []) (hh := [(0, 17, 20, 13)]) ⟨hx, hb, hml, hown, hts⟩ (c_setRain l g L f _ hN t a.lo m.oj (xs (i + 1)) (b2i true) E.w _ _ (x_setRain l hst h hN hd (xs (i + 1)) true) h.L_lo h.f_lo hm.L_oj (pj_setRain h hm) (xe_setRain)) (vx_cwSW 4 hts gL_law_L_setRain rfl rfl rfl (by decide +kernel) ⟨Nat.le_of_ble_eq_true rfl, Nat.le_of_ble_eq_true rfl⟩) hK hZ hDS hNC hP hA hS rfl hl.1 rfl (Nat.le_of_ble_eq_true rfl) dL_law_218 ⟨by show cells + 1 ≤ 601024; omega, by show slots + 6 ≤ 7293034; omega⟩ (fun r L2 f1 H locs hG hr hP hS hA => ?_)
    obtain ⟨D1, w1, hB1, hM1, hR⟩ := mid_setRain h hm hr
    refine lv_istore (lv' := [(5, .int r), (4, .int (nI i)), (3, .ref m.oj), (2, .ref m.mh), (1, .ref a.lo), (0, .ref b)]) hx hb dL_law_221 hl (by decide) rfl (fun ls hl => ?_)
    refine lv_aload_n hx hb dL_law_223 rfl (lv_at hl 3 rfl) ?_
    refine sc_at (i := i) (j := 1) hx hb hX hbl hbA hS (by decide) (by omega) hnS (lv_at hl 5 rfl) (lv_at hl 1 rfl) dL_law_224 dL_law_225 dL_law_227 dL_law_228 dL_law_229 ?_
    refine sc_at (i := i) (j := 2) hx hb hX hbl hbA hS (by decide) (by omega) hnS (lv_at hl 5 rfl) (lv_at hl 1 rfl) dL_law_230 dL_law_231 dL_law_233 dL_law_234 dL_law_235 ?_
    refine lv_if_eq (tgt := 243) hx hb dL_law_236 (by decide) (fun h9 => absurd h9 hz) (fun _ => ?_)
    refine lv_iconst (v := b2i true) hx hb dL_law_239 (by decide) ?_
    refine lv_goto (tgt := 244) hx hb dL_law_240 (by decide) ?_
    refine rw_V (As := [.int (xs (i + 1)), .int (b2i true)]) (rest := []) ⟨hx, hb, hml, hown, hts⟩ (y_setRain l hM1 hG.1 h.hn h.hnv hd (xs (i + 1)) true _) (cwV 2 hts gL_law_X6_setRain rfl rfl rfl (by decide +kernel) ⟨Nat.le_of_ble_eq_true rfl, Nat.le_of_ble_eq_true rfl⟩) hK hP hA hA2 hS hM1.L_mh hM1.f_mh rfl rfl hl.1 rfl (Nat.le_of_ble_eq_true rfl) dL_law_244 ⟨by show cells + 1 ≤ 601024; omega, by show slots + 6 ≤ 7293034; omega⟩ (fun b1 f2 H locs hp hP hS => ?_)
    obtain ⟨D2, E2, M2, hSy2, hth, hok, hM2, hd2⟩ := fin_setRain h hB1 hM1 hAM hM hR hp
    refine lv_istore (lv' := [(6, .int b1), (5, .int r), (4, .int (nI i)), (3, .ref m.oj), (2, .ref m.mh), (1, .ref a.lo), (0, .ref b)]) hx hb dL_law_247 hl (by decide) rfl (fun ls hl => ?_)
    refine lv_aload_n hx hb dL_law_249 rfl (lv_at hl 4 rfl) ?_
    refine ro_V (As := []) (rest := []) ⟨hx, hb, hml, hown, hts⟩ (m_X6_thrown l g L2 f2 m.mh m.mg m.mr m.mk m.mn m.ms m.nw m.ah D2.n D2.nv E2.th hSy2.2.1.L_mh hSy2.2.1.f_mh) (cwV 0 hts gL_law_X6_thrown rfl rfl rfl (by decide +kernel) ⟨Nat.le_of_ble_eq_true rfl, Nat.le_of_ble_eq_true rfl⟩) hK hP hSy2.2.1.L_mh hSy2.2.1.f_mh rfl rfl hl.1 rfl (Nat.le_of_ble_eq_true rfl) dL_law_250 ⟨by show cells + 1 ≤ 601024; omega, by show slots + 6 ≤ 7293034; omega⟩ (fun q hq => ?_)
    rw [hth] at hq
    subst hq
    refine lv_iload hx hb dL_law_253 (lv_at hl 1 rfl) ?_
    refine lv_icmp_eq (tgt := 260) hx hb dL_law_255 (by decide) (fun _ => ?_) (fun h9 => absurd rfl h9)
    refine lv_iload hx hb dL_law_260 (lv_at hl 1 rfl) ?_
    have hend : W p l e room_1 s mi args below meth c H locs (cells + 1) (slots + 6) Q (F0 mi 284 ls []) := by
      refine lv_goto (tgt := 1266) hx hb dL_law_284 (by decide) ?_
      exact W.widen (by omega) (by omega) (kk L2 f2 D2 E2 M2 H locs ls hSy2 hG.1 hP hA hS (lv_sub hl [2, 3, 4, 5, 6] rfl) hM2 hd2)
    refine lv_if_ne (tgt := 284) hx hb dL_law_262 (by decide) (fun _ => hend) (fun h0 => ?_)
    refine lv_aload_n hx hb dL_law_265 rfl (lv_at hl 3 rfl) ?_
    refine lv_iconst (v := 0) hx hb dL_law_266 (by decide) ?_
    refine pj_ald hx hb hK hP hSy2.2.1.L_oj hSy2.2.1.f_oj dL_law_267 ?_
    refine lv_iload hx hb dL_law_268 (lv_at hl 0 rfl) ?_
    refine lv_if_eq (tgt := 277) hx hb dL_law_270 (by decide) (fun hb1 => ?_) (fun hb1 => ?_)
    · refine lv_lconst (v := 0) hx hb dL_law_277 (by decide) ?_
      refine W.lcmp hx hb dL_law_278 ?_
      exact lv_if_eq (tgt := 284) hx hb dL_law_279 (by decide) (fun _ => hend) (fun h9 => absurd (cmp_0 ((hok h0).trans (if_pos hb1))) h9)
    · refine lv_lconst (v := 1) hx hb dL_law_273 (by decide) ?_
      refine lv_goto (tgt := 278) hx hb dL_law_274 (by decide) ?_
      refine W.lcmp hx hb dL_law_278 ?_
      exact lv_if_eq (tgt := 284) hx hb dL_law_279 (by decide) (fun _ => hend) (fun h9 => absurd (cmp_0 ((hok h0).trans (if_neg hb1))) h9)
set_option maxHeartbeats 4000000 in
set_option maxRecDepth 100000 in
theorem lc_sign {p : Program} {l : Launch} {e : Env} {s : State} {mi : MethodId} {args : Array Value} {below : List Frame} {meth : Method} {c : Code} {Q : State → Prop} {g : GG} {t b nS : Nat} {xs : Nat → Int32} {a : LgA} {m : MdA} {i M cells slots : Nat} {H : Heap} {locs : List Loc} {L : List Nat} {f : Nat → va_E} {D : LgD} {E : MdD} {ls : Array Slot} (C : LC p l s mi args c b nS xs g t) (hSy : Sy a m g t L f D E M) (hN : L.Nodup) (hP : PP g L f H) (hA : ∀ x ∈ L, AA [] s.heap.size x) (hS : va_S (AA [] s.heap.size) s.heap H locs) (hl : lv_has ls 9 (lvB i b a.lo m.mh m.oj)) (hi : i + 4 ≤ nS) (hM : M + 1000 < 2 ^ 30) (hd : D.d + 130 < 2 ^ 30) (hc : cells + 300 ≤ 601024) (hs : slots + 2000 ≤ 7293034) (kk : Cont p l e s mi args below meth c Q g t b a m i M D.d cells slots) : W p l e room_1 s mi args below meth c H locs cells slots Q (F0 mi 287 ls []) := by
  obtain ⟨hx, hb, hml, hown, hts, hK, hZ, hDS, hNC, hX, hbl, hst, hnS⟩ := C
  obtain ⟨h, hm, hAM⟩ := hSy
  have hA2 : ∀ q, s.heap.size ≤ q → AA [] s.heap.size q := fun _ h9 => Or.inr h9
  have hbA : ¬ AA [] s.heap.size b := fun z => z.elim (fun h9 => absurd h9 List.not_mem_nil) (fun h9 => by omega)
  have hl : lv_has ls 9 [(4, .int (nI i)), (3, .ref m.oj), (2, .ref m.mh), (1, .ref a.lo), (0, .ref b)] := hl
  have htL : t ∉ L := fun z => hDS.2.choose_spec.2.2.2.2.2.2 (hA t z)
  refine lv_aload_n hx hb dL_law_287 rfl (lv_at hl 3 rfl) ?_
  refine sc_at (i := i) (j := 1) hx hb hX hbl hbA hS (by decide) (by omega) hnS (lv_at hl 4 rfl) (lv_at hl 0 rfl) dL_law_288 dL_law_289 dL_law_291 dL_law_292 dL_law_293 ?_
  refine sc_at (i := i) (j := 2) hx hb hX hbl hbA hS (by decide) (by omega) hnS (lv_at hl 4 rfl) (lv_at hl 0 rfl) dL_law_294 dL_law_295 dL_law_297 dL_law_298 dL_law_299 ?_
  refine lv_aload_n hx hb dL_law_300 rfl (lv_at hl 1 rfl) ?_
  refine lw_S (As := [.ref a.lo, .int (xs (i + 1)), .int (xs (i + 2)), .ref m.oj]) (rest := []) (hh := [(0, 10, 13, 15), (0, 10, 17, 24)]) ⟨hx, hb, hml, hown, hts⟩ (c_sign l g L f _ hN t a.lo m.oj (xs (i + 1)) (xs (i + 2)) E.w _ _ (x_sign l hst h hN hd (xs (i + 1)) (xs (i + 2))) h.L_lo h.f_lo hm.L_oj (pj_sign h hm htL) (xe_sign)) (vx_cwSW 4 hts gL_law_L_sign rfl rfl rfl (by decide +kernel) ⟨Nat.le_of_ble_eq_true rfl, Nat.le_of_ble_eq_true rfl⟩) hK hZ hDS hNC hP hA hS rfl hl.1 rfl (Nat.le_of_ble_eq_true rfl) dL_law_301 ⟨by show cells + 12 ≤ 601024; omega, by show slots + 720 ≤ 7293034; omega⟩ (fun r L2 f1 H locs hG hr hP hS hA => ?_)
  obtain ⟨D1, w1, hB1, hM1, hR⟩ := mid_sign h hm htL hG.2.1 hr
  refine lv_istore (lv' := [(5, .int r), (4, .int (nI i)), (3, .ref m.oj), (2, .ref m.mh), (1, .ref a.lo), (0, .ref b)]) hx hb dL_law_304 hl (by decide) rfl (fun ls hl => ?_)
  refine lv_aload_n hx hb dL_law_306 rfl (lv_at hl 3 rfl) ?_
  refine sc_at (i := i) (j := 1) hx hb hX hbl hbA hS (by decide) (by omega) hnS (lv_at hl 5 rfl) (lv_at hl 1 rfl) dL_law_307 dL_law_308 dL_law_310 dL_law_311 dL_law_312 ?_
  refine sc_at (i := i) (j := 2) hx hb hX hbl hbA hS (by decide) (by omega) hnS (lv_at hl 5 rfl) (lv_at hl 1 rfl) dL_law_313 dL_law_314 dL_law_316 dL_law_317 dL_law_318 ?_
  refine rw_V (As := [.int (xs (i + 1)), .int (xs (i + 2))]) (rest := []) ⟨hx, hb, hml, hown, hts⟩ (y_sign l hM1 hG.1 h.hn h.hnv hd (xs (i + 1)) (xs (i + 2)) _) (cwV 2 hts gL_law_X6_sign rfl rfl rfl (by decide +kernel) ⟨Nat.le_of_ble_eq_true rfl, Nat.le_of_ble_eq_true rfl⟩) hK hP hA hA2 hS hM1.L_mh hM1.f_mh rfl rfl hl.1 rfl (Nat.le_of_ble_eq_true rfl) dL_law_319 ⟨by show cells + 12 ≤ 601024; omega, by show slots + 720 ≤ 7293034; omega⟩ (fun b1 f2 H locs hp hP hS => ?_)
  obtain ⟨D2, E2, M2, hSy2, hth, hok, hM2, hd2⟩ := fin_sign h hB1 hM1 hAM hM hR hp
  refine lv_istore (lv' := [(6, .int b1), (5, .int r), (4, .int (nI i)), (3, .ref m.oj), (2, .ref m.mh), (1, .ref a.lo), (0, .ref b)]) hx hb dL_law_322 hl (by decide) rfl (fun ls hl => ?_)
  refine lv_aload_n hx hb dL_law_324 rfl (lv_at hl 4 rfl) ?_
  refine ro_V (As := []) (rest := []) ⟨hx, hb, hml, hown, hts⟩ (m_X6_thrown l g L2 f2 m.mh m.mg m.mr m.mk m.mn m.ms m.nw m.ah D2.n D2.nv E2.th hSy2.2.1.L_mh hSy2.2.1.f_mh) (cwV 0 hts gL_law_X6_thrown rfl rfl rfl (by decide +kernel) ⟨Nat.le_of_ble_eq_true rfl, Nat.le_of_ble_eq_true rfl⟩) hK hP hSy2.2.1.L_mh hSy2.2.1.f_mh rfl rfl hl.1 rfl (Nat.le_of_ble_eq_true rfl) dL_law_325 ⟨by show cells + 12 ≤ 601024; omega, by show slots + 720 ≤ 7293034; omega⟩ (fun q hq => ?_)
  rw [hth] at hq
  subst hq
  refine lv_iload hx hb dL_law_328 (lv_at hl 1 rfl) ?_
  refine lv_icmp_eq (tgt := 335) hx hb dL_law_330 (by decide) (fun _ => ?_) (fun h9 => absurd rfl h9)
  refine lv_iload hx hb dL_law_335 (lv_at hl 1 rfl) ?_
  have hend : W p l e room_1 s mi args below meth c H locs (cells + 12) (slots + 720) Q (F0 mi 352 ls []) := by
    refine lv_goto (tgt := 1266) hx hb dL_law_352 (by decide) ?_
    exact W.widen (by omega) (by omega) (kk L2 f2 D2 E2 M2 H locs ls hSy2 hG.1 hP hA hS (lv_sub hl [2, 3, 4, 5, 6] rfl) hM2 hd2)
  refine lv_if_ne (tgt := 352) hx hb dL_law_337 (by decide) (fun _ => hend) (fun h0 => ?_)
  refine lv_aload_n hx hb dL_law_340 rfl (lv_at hl 3 rfl) ?_
  refine lv_iconst (v := 0) hx hb dL_law_341 (by decide) ?_
  refine pj_ald hx hb hK hP hSy2.2.1.L_oj hSy2.2.1.f_oj dL_law_342 ?_
  refine lv_iload hx hb dL_law_343 (lv_at hl 0 rfl) ?_
  refine lv_i2l (v := b1.toInt64) hx hb dL_law_345 rfl ?_
  refine W.lcmp hx hb dL_law_346 ?_
  exact lv_if_eq (tgt := 352) hx hb dL_law_347 (by decide) (fun _ => hend) (fun h9 => absurd (cmp_0 (hok h0)) h9)
set_option maxHeartbeats 4000000 in
set_option maxRecDepth 100000 in
theorem lc_join {p : Program} {l : Launch} {e : Env} {s : State} {mi : MethodId} {args : Array Value} {below : List Frame} {meth : Method} {c : Code} {Q : State → Prop} {g : GG} {t b nS : Nat} {xs : Nat → Int32} {a : LgA} {m : MdA} {i M cells slots : Nat} {H : Heap} {locs : List Loc} {L : List Nat} {f : Nat → va_E} {D : LgD} {E : MdD} {ls : Array Slot} (C : LC p l s mi args c b nS xs g t) (hSy : Sy a m g t L f D E M) (hN : L.Nodup) (hP : PP g L f H) (hA : ∀ x ∈ L, AA [] s.heap.size x) (hS : va_S (AA [] s.heap.size) s.heap H locs) (hl : lv_has ls 9 (lvB i b a.lo m.mh m.oj)) (hi : i + 4 ≤ nS) (hM : M + 1000 < 2 ^ 30) (hd : D.d + 130 < 2 ^ 30) (hc : cells + 300 ≤ 601024) (hs : slots + 2000 ≤ 7293034) (kk : Cont p l e s mi args below meth c Q g t b a m i M D.d cells slots) : W p l e room_1 s mi args below meth c H locs cells slots Q (F0 mi 355 ls []) := by
  obtain ⟨hx, hb, hml, hown, hts, hK, hZ, hDS, hNC, hX, hbl, hst, hnS⟩ := C
  obtain ⟨h, hm, hAM⟩ := hSy
  have hA2 : ∀ q, s.heap.size ≤ q → AA [] s.heap.size q := fun _ h9 => Or.inr h9
  have hbA : ¬ AA [] s.heap.size b := fun z => z.elim (fun h9 => absurd h9 List.not_mem_nil) (fun h9 => by omega)
  have hl : lv_has ls 9 [(4, .int (nI i)), (3, .ref m.oj), (2, .ref m.mh), (1, .ref a.lo), (0, .ref b)] := hl
  refine lv_aload_n hx hb dL_law_355 rfl (lv_at hl 3 rfl) ?_
  refine lv_aload_n hx hb dL_law_356 rfl (lv_at hl 1 rfl) ?_
  refine lw_S (As := [.ref a.lo, .ref m.oj]) (rest := []) (hh := [(0, 8, 11, 24)]) ⟨hx, hb, hml, hown, hts⟩ (c_join l g L f _ hN t a.lo m.oj  E.w _ _ (x_join l hst h hN hd ) h.L_lo h.f_lo hm.L_oj (pj_join h hm) (xe_join)) (vx_cwSW 2 hts gL_law_L_join rfl rfl rfl (by decide +kernel) ⟨Nat.le_of_ble_eq_true rfl, Nat.le_of_ble_eq_true rfl⟩) hK hZ hDS hNC hP hA hS rfl hl.1 rfl (Nat.le_of_ble_eq_true rfl) dL_law_357 ⟨by show cells + 1 ≤ 601024; omega, by show slots + 6 ≤ 7293034; omega⟩ (fun r L2 f1 H locs hG hr hP hS hA => ?_)
  obtain ⟨D1, w1, hB1, hM1, hR⟩ := mid_join h hm hr
  refine lv_istore (lv' := [(5, .int r), (4, .int (nI i)), (3, .ref m.oj), (2, .ref m.mh), (1, .ref a.lo), (0, .ref b)]) hx hb dL_law_360 hl (by decide) rfl (fun ls hl => ?_)
  refine lv_aload_n hx hb dL_law_362 rfl (lv_at hl 3 rfl) ?_
  refine rw_V (As := []) (rest := []) ⟨hx, hb, hml, hown, hts⟩ (y_join l hM1 hG.1 h.hn h.hnv hd  _) (cwV 0 hts gL_law_X6_join rfl rfl rfl (by decide +kernel) ⟨Nat.le_of_ble_eq_true rfl, Nat.le_of_ble_eq_true rfl⟩) hK hP hA hA2 hS hM1.L_mh hM1.f_mh rfl rfl hl.1 rfl (Nat.le_of_ble_eq_true rfl) dL_law_363 ⟨by show cells + 1 ≤ 601024; omega, by show slots + 6 ≤ 7293034; omega⟩ (fun b1 f2 H locs hp hP hS => ?_)
  obtain ⟨D2, E2, M2, hSy2, hth, hok, hM2, hd2⟩ := fin_join h hB1 hM1 hAM hM hR hp
  refine lv_istore (lv' := [(6, .int b1), (5, .int r), (4, .int (nI i)), (3, .ref m.oj), (2, .ref m.mh), (1, .ref a.lo), (0, .ref b)]) hx hb dL_law_366 hl (by decide) rfl (fun ls hl => ?_)
  refine lv_aload_n hx hb dL_law_368 rfl (lv_at hl 4 rfl) ?_
  refine ro_V (As := []) (rest := []) ⟨hx, hb, hml, hown, hts⟩ (m_X6_thrown l g L2 f2 m.mh m.mg m.mr m.mk m.mn m.ms m.nw m.ah D2.n D2.nv E2.th hSy2.2.1.L_mh hSy2.2.1.f_mh) (cwV 0 hts gL_law_X6_thrown rfl rfl rfl (by decide +kernel) ⟨Nat.le_of_ble_eq_true rfl, Nat.le_of_ble_eq_true rfl⟩) hK hP hSy2.2.1.L_mh hSy2.2.1.f_mh rfl rfl hl.1 rfl (Nat.le_of_ble_eq_true rfl) dL_law_369 ⟨by show cells + 1 ≤ 601024; omega, by show slots + 6 ≤ 7293034; omega⟩ (fun q hq => ?_)
  rw [hth] at hq
  subst hq
  refine lv_iload hx hb dL_law_372 (lv_at hl 1 rfl) ?_
  refine lv_icmp_eq (tgt := 379) hx hb dL_law_374 (by decide) (fun _ => ?_) (fun h9 => absurd rfl h9)
  refine lv_iload hx hb dL_law_379 (lv_at hl 1 rfl) ?_
  have hend : W p l e room_1 s mi args below meth c H locs (cells + 1) (slots + 6) Q (F0 mi 396 ls []) := by
    refine lv_goto (tgt := 1266) hx hb dL_law_396 (by decide) ?_
    exact W.widen (by omega) (by omega) (kk L2 f2 D2 E2 M2 H locs ls hSy2 hG.1 hP hA hS (lv_sub hl [2, 3, 4, 5, 6] rfl) hM2 hd2)
  refine lv_if_ne (tgt := 396) hx hb dL_law_381 (by decide) (fun _ => hend) (fun h0 => ?_)
  refine lv_aload_n hx hb dL_law_384 rfl (lv_at hl 3 rfl) ?_
  refine lv_iconst (v := 0) hx hb dL_law_385 (by decide) ?_
  refine pj_ald hx hb hK hP hSy2.2.1.L_oj hSy2.2.1.f_oj dL_law_386 ?_
  refine lv_iload hx hb dL_law_387 (lv_at hl 0 rfl) ?_
  refine lv_i2l (v := b1.toInt64) hx hb dL_law_389 rfl ?_
  refine W.lcmp hx hb dL_law_390 ?_
  exact lv_if_eq (tgt := 396) hx hb dL_law_391 (by decide) (fun _ => hend) (fun h9 => absurd (cmp_0 (hok h0)) h9)
