theorem ti_0 {x : Int32} {nS i : Nat} (h : ¬ Int32.ofNat nS - 4 < nI i) (hn : nS ≤ 2048) (hi : i ≤ 2100) : i + 4 ≤ nS := by
  rcases Nat.lt_or_ge nS 4 with q | q
  · exfalso
    apply h
    rw [Int32.lt_iff_toInt_lt, nI_toInt (by omega)]
    rcases (show nS = 0 ∨ nS = 1 ∨ nS = 2 ∨ nS = 3 by omega) with rfl | rfl | rfl | rfl
    · rw [show (Int32.ofNat 0 - 4).toInt = -4 from by decide]; omega
    · rw [show (Int32.ofNat 1 - 4).toInt = -3 from by decide]; omega
    · rw [show (Int32.ofNat 2 - 4).toInt = -2 from by decide]; omega
    · rw [show (Int32.ofNat 3 - 4).toInt = -1 from by decide]; omega
  · have e : Int32.ofNat nS - 4 = nI (nS - 4) := pk_sub (a := nS) (b := 4) q
    rw [e] at h
    rcases Nat.lt_or_ge (nS - 4) i with z | z
    · exact absurd ((nI_ltI (a := nS - 4) (b := i) (by omega) (by omega)).mpr z) h
    · omega
set_option maxHeartbeats 4000000 in
set_option maxRecDepth 100000 in
theorem law_loop {p : Program} {l : Launch} {e : Env} {s : State} {mi : MethodId} {below : List Frame} {meth : Method} {c : Code} {g : GG} {t b nS : Nat} {xs : Nat → Int32} {a : LgA} {m : MdA} (C : LC p l s mi #[Value.ref b] c b nS xs g t) (hr : meth.sig.returnType = ret) (hlk : meth.locks = false) : ∀ (n j : Nat), nS ≤ 4 * j + 4 * n → j ≤ 520 → ∀ (d0 : Drawn) (L : List Nat) (f : Nat → va_E) (D : LgD) (E : MdD) (M : Nat) (H : Heap) (locs : List Loc) (ls : Array Slot) (cells slots : Nat), s.drawn.sameBut d0 lw_cs → Sy a m g t L f D E M → L.Nodup → PP g L f H → (∀ x ∈ L, AA [] s.heap.size x) → va_S (AA [] s.heap.size) s.heap H locs → lv_has ls 9 (lvB (4 * j) b a.lo m.mh m.oj) → M ≤ 10 + 500 * j → D.d ≤ 100 * j → cells ≤ 1000 + 300 * j → slots ≤ 20000 + 2000 * j → W p l e room_1 (s.setDrawn d0) mi #[Value.ref b] below meth c H locs cells slots (lw_Z below #[Value.ref b] s) (F0 mi 23 ls []) := by
  intro n
  have C0 := C
  obtain ⟨hx, hb, hml, hown, hts, hK, hZ, hDS, hNC, hX, hbl, hst, hnS⟩ := C
  have hbA : ¬ AA [] s.heap.size b := fun z => z.elim (fun h9 => absurd h9 List.not_mem_nil) (fun h9 => by omega)
  induction n with
  | zero =>
    intro j hn hj d0 L f D E M H locs ls cells slots hd0 hSy hN hP hA hS hl hM hD hc hs
    have hl : lv_has ls 9 [(4, .int (nI (4 * j))), (3, .ref m.oj), (2, .ref m.mh), (1, .ref a.lo), (0, .ref b)] := hl
    refine lv_iload hx hb dL_law_23 (lv_at hl 0 rfl) ?_
    refine lv_aload_n hx hb dL_law_25 rfl (lv_at hl 4 rfl) ?_
    refine va_slen hx hb hX hbl hbA hS dL_law_26 ?_
    refine lv_iconst (v := 4) hx hb dL_law_27 (by decide) ?_
    refine lv_isub hx hb dL_law_28 ?_
    refine lv_icmp_gt (tgt := 1272) hx hb dL_law_29 (by decide) (fun _ => ?_) (fun h9 => absurd (ti_0 (x := 0) h9 hnS (by omega)) (by omega))
    refine lv_iconst (v := 1) hx hb dL_law_1272 (by decide) ?_
    refine va_forget (fun q hq => (hS.2.2 q hq).elim (fun h9 => absurd h9 List.not_mem_nil) (fun h9 => h9)) ?_
    exact W.widen (by omega) (by omega) (lw_ret hd0 hx hb hr hlk dL_law_1273)
  | succ n ih =>
    intro j hn hj d0 L f D E M H locs ls cells slots hd0 hSy hN hP hA hS hl hM hD hc hs
    have hl : lv_has ls 9 [(4, .int (nI (4 * j))), (3, .ref m.oj), (2, .ref m.mh), (1, .ref a.lo), (0, .ref b)] := hl
    refine lv_iload hx hb dL_law_23 (lv_at hl 0 rfl) ?_
    refine lv_aload_n hx hb dL_law_25 rfl (lv_at hl 4 rfl) ?_
    refine va_slen hx hb hX hbl hbA hS dL_law_26 ?_
    refine lv_iconst (v := 4) hx hb dL_law_27 (by decide) ?_
    refine lv_isub hx hb dL_law_28 ?_
    refine lv_icmp_gt (tgt := 1272) hx hb dL_law_29 (by decide) (fun _ => ?_) (fun h9 => ?_)
    · skip
      refine lv_iconst (v := 1) hx hb dL_law_1272 (by decide) ?_
      refine va_forget (fun q hq => (hS.2.2 q hq).elim (fun h9 => absurd h9 List.not_mem_nil) (fun h9 => h9)) ?_
      exact W.widen (by omega) (by omega) (lw_ret hd0 hx hb hr hlk dL_law_1273)
    have hi := ti_0 (x := 0) h9 hnS (by omega)
    have kk : ∀ d1 : Drawn, s.drawn.sameBut d1 lw_cs → Cont p l e (s.setDrawn d1) mi #[Value.ref b] below meth c (lw_Z below #[Value.ref b] s) g t b a m (4 * j) M D.d cells slots := by
      intro d1 hd1 L2 f2 D2 E2 M2 H2 locs2 ls2 hSy2 hN2 hP2 hA2 hS2 hl2 hM2 hD2
      have hl2 : lv_has ls2 9 [(4, .int (nI (4 * j))), (3, .ref m.oj), (2, .ref m.mh), (1, .ref a.lo), (0, .ref b)] := hl2
      refine lv_iinc (v := nI (4 * (j + 1))) (lv' := [(4, .int (nI (4 * (j + 1)))), (3, .ref m.oj), (2, .ref m.mh), (1, .ref a.lo), (0, .ref b)]) hx hb dL_law_1266 hl2 (k := 0) rfl (nI_add (4 * j) 4) (by decide) rfl (fun ls hl => ?_)
      refine lv_goto (tgt := 23) hx hb dL_law_1269 (by decide) ?_
      exact ih (j + 1) (by omega) (by omega) d1 L2 f2 D2 E2 M2 H2 locs2 ls _ _ hd1 hSy2 hN2 hP2 hA2 hS2 hl (by omega) (by omega) (by omega) (by omega)
    refine lv_aload_n hx hb dL_law_32 rfl (lv_at hl 4 rfl) ?_
    refine lv_iload hx hb dL_law_33 (lv_at hl 0 rfl) ?_
    have hin := pn_in (i := nI (4 * j)) (n := nS) rfl (by omega) (Nat.lt_of_le_of_lt hnS (by decide))
    have hX1 : va_X b nS xs (s.setDrawn d0) s.heap := (C0.drawn d0).2.2.2.2.2.2.2.2.2.1
    refine va_sld hx hb hX1 hbl hbA hS hin.1 dL_law_35 ?_
    refine lv_bipush (v := 31) hx hb dL_law_36 (by decide) ?_
    refine lv_iand hx hb dL_law_38 ?_
    refine lv_topi (fun x hx0 => ?_)
    have C1 := C0.drawn d0
    have hM1 : M + 1000 < 2 ^ 30 := by omega
    have hd1 : D.d + 130 < 2 ^ 30 := by omega
    have hc1 : cells + 300 ≤ 601024 := by omega
    have hs1 : slots + 2000 ≤ 7293034 := by omega
    by_cases k0 : x = 0
    · have q : x.toInt = 0 := by rw [k0]; rfl
      refine lv_tableIn (off := 89) (tgt := 128) hx hb dL_law_39 (by rw [q]; decide) (by rw [q]; decide) (by rw [q]; rfl) (by decide) ?_
      exact lc_setGlass C1 hSy hN hP hA hS hl hi hM1 hd1 hc1 hs1 (kk d0 hd0)
    have q0 : x.toInt ≠ 0 := ti_ne k0
    by_cases k1 : x = 1
    · have q : x.toInt = 1 := by rw [k1]; rfl
      refine lv_tableIn (off := 157) (tgt := 196) hx hb dL_law_39 (by rw [q]; decide) (by rw [q]; decide) (by rw [q]; rfl) (by decide) ?_
      exact lc_setRain C1 hSy hN hP hA hS hl hi hM1 hd1 hc1 hs1 (kk d0 hd0)
    have q1 : x.toInt ≠ 1 := ti_ne k1
    by_cases k2 : x = 2
    · have q : x.toInt = 2 := by rw [k2]; rfl
      refine lv_tableIn (off := 248) (tgt := 287) hx hb dL_law_39 (by rw [q]; decide) (by rw [q]; decide) (by rw [q]; rfl) (by decide) ?_
      exact lc_sign C1 hSy hN hP hA hS hl hi hM1 hd1 hc1 hs1 (kk d0 hd0)
    have q2 : x.toInt ≠ 2 := ti_ne k2
    by_cases k3 : x = 3
    · have q : x.toInt = 3 := by rw [k3]; rfl
      refine lv_tableIn (off := 316) (tgt := 355) hx hb dL_law_39 (by rw [q]; decide) (by rw [q]; decide) (by rw [q]; rfl) (by decide) ?_
      exact lc_join C1 hSy hN hP hA hS hl hi hM1 hd1 hc1 hs1 (kk d0 hd0)
    have q3 : x.toInt ≠ 3 := ti_ne k3
    by_cases k4 : x = 4
    · have q : x.toInt = 4 := by rw [k4]; rfl
      refine lv_tableIn (off := 360) (tgt := 399) hx hb dL_law_39 (by rw [q]; decide) (by rw [q]; decide) (by rw [q]; rfl) (by decide) ?_
      exact lc_weigh C1 hSy hN hP hA hS hl hi hM1 hd1 hc1 hs1 (kk d0 hd0)
    have q4 : x.toInt ≠ 4 := ti_ne k4
    by_cases k5 : x = 5
    · have q : x.toInt = 5 := by rw [k5]; rfl
      refine lv_tableIn (off := 440) (tgt := 479) hx hb dL_law_39 (by rw [q]; decide) (by rw [q]; decide) (by rw [q]; rfl) (by decide) ?_
      exact lc_share C1 hSy hN hP hA hS hl hi hM1 hd1 hc1 hs1 (kk d0 hd0)
    have q5 : x.toInt ≠ 5 := ti_ne k5
    by_cases k6 : x = 6
    · have q : x.toInt = 6 := by rw [k6]; rfl
      refine lv_tableIn (off := 508) (tgt := 547) hx hb dL_law_39 (by rw [q]; decide) (by rw [q]; decide) (by rw [q]; rfl) (by decide) ?_
      exact lc_says C1 hSy hN hP hA hS hl hi hM1 hd1 hc1 hs1 (kk d0 hd0)
    have q6 : x.toInt ≠ 6 := ti_ne k6
    by_cases k7 : x = 7
    · have q : x.toInt = 7 := by rw [k7]; rfl
      refine lv_tableIn (off := 583) (tgt := 622) hx hb dL_law_39 (by rw [q]; decide) (by rw [q]; decide) (by rw [q]; rfl) (by decide) ?_
      exact lc_told C1 hSy hN hP hA hS hl hi hM1 hd1 hc1 hs1 (kk d0 hd0)
    have q7 : x.toInt ≠ 7 := ti_ne k7
    by_cases k8 : x = 8
    · have q : x.toInt = 8 := by rw [k8]; rfl
      refine lv_tableIn (off := 651) (tgt := 690) hx hb dL_law_39 (by rw [q]; decide) (by rw [q]; decide) (by rw [q]; rfl) (by decide) ?_
      exact lc_weight C1 hSy hN hP hA hS hl hi hM1 hd1 hc1 hs1 (kk d0 hd0)
    have q8 : x.toInt ≠ 8 := ti_ne k8
    by_cases k9 : x = 9
    · have q : x.toInt = 9 := by rw [k9]; rfl
      refine lv_tableIn (off := 719) (tgt := 758) hx hb dL_law_39 (by rw [q]; decide) (by rw [q]; decide) (by rw [q]; rfl) (by decide) ?_
      exact lc_about C1 hSy hN hP hA hS hl hi hM1 hd1 hc1 hs1 (kk d0 hd0)
    have q9 : x.toInt ≠ 9 := ti_ne k9
    by_cases k10 : x = 10
    · have q : x.toInt = 10 := by rw [k10]; rfl
      refine lv_tableIn (off := 787) (tgt := 826) hx hb dL_law_39 (by rw [q]; decide) (by rw [q]; decide) (by rw [q]; rfl) (by decide) ?_
      exact lc_at C1 hSy hN hP hA hS hl hi hM1 hd1 hc1 hs1 (kk d0 hd0)
    have q10 : x.toInt ≠ 10 := ti_ne k10
    by_cases k11 : x = 11
    · have q : x.toInt = 11 := by rw [k11]; rfl
      refine lv_tableIn (off := 843) (tgt := 882) hx hb dL_law_39 (by rw [q]; decide) (by rw [q]; decide) (by rw [q]; rfl) (by decide) ?_
      exact lc_count C1 hSy hN hP hA hS hl hi hM1 hd1 hc1 hs1 (kk d0 hd0)
    have q11 : x.toInt ≠ 11 := ti_ne k11
    by_cases k12 : x = 12
    · have q : x.toInt = 12 := by rw [k12]; rfl
      refine lv_tableIn (off := 899) (tgt := 938) hx hb dL_law_39 (by rw [q]; decide) (by rw [q]; decide) (by rw [q]; rfl) (by decide) ?_
      exact lc_pass C1 hSy hN hP hA hS hl hi hM1 hd1 hc1 hs1 (kk d0 hd0)
    have q12 : x.toInt ≠ 12 := ti_ne k12
    by_cases k13 : x = 13
    · have q : x.toInt = 13 := by rw [k13]; rfl
      refine lv_tableIn (off := 955) (tgt := 994) hx hb dL_law_39 (by rw [q]; decide) (by rw [q]; decide) (by rw [q]; rfl) (by decide) ?_
      exact lc_foresee C1 hSy hN hP hA hS hl hi hM1 hd1 hc1 hs1 (kk d0 hd0)
    have q13 : x.toInt ≠ 13 := ti_ne k13
    by_cases k14 : x = 14
    · have q : x.toInt = 14 := by rw [k14]; rfl
      refine lv_tableIn (off := 1023) (tgt := 1062) hx hb dL_law_39 (by rw [q]; decide) (by rw [q]; decide) (by rw [q]; rfl) (by decide) ?_
      exact lc_overtakes C1 hSy hN hP hA hS hl hi hM1 hd1 hc1 hs1 (kk d0 hd0)
    have q14 : x.toInt ≠ 14 := ti_ne k14
    by_cases k15 : x = 15
    · have q : x.toInt = 15 := by rw [k15]; rfl
      refine lv_tableIn (off := 1091) (tgt := 1130) hx hb dL_law_39 (by rw [q]; decide) (by rw [q]; decide) (by rw [q]; rfl) (by decide) ?_
      exact lc_advise C1 hSy hN hP hA hS hl hi hM1 hd1 hc1 hs1 (kk d0 hd0)
    have q15 : x.toInt ≠ 15 := ti_ne k15
    by_cases k16 : x = 16
    · have q : x.toInt = 16 := by rw [k16]; rfl
      refine lv_tableIn (off := 1159) (tgt := 1198) hx hb dL_law_39 (by rw [q]; decide) (by rw [q]; decide) (by rw [q]; rfl) (by decide) ?_
      exact lc_best C1 hSy hN hP hA hS hl hi hM1 hd1 hc1 hs1 (kk d0 hd0)
    have q16 : x.toInt ≠ 16 := ti_ne k16
    by_cases k17 : x = 17
    · have q : x.toInt = 17 := by rw [k17]; rfl
      refine lv_tableIn (off := 1172) (tgt := 1211) hx hb dL_law_39 (by rw [q]; decide) (by rw [q]; decide) (by rw [q]; rfl) (by decide) ?_
      exact lc_mean hd0 C1 hSy hN hP hA hS hl hi hM1 hd1 hc1 hs1 kk
    have q17 : x.toInt ≠ 17 := ti_ne k17
    by_cases k18 : x = 18
    · have q : x.toInt = 18 := by rw [k18]; rfl
      refine lv_tableIn (off := 1213) (tgt := 1252) hx hb dL_law_39 (by rw [q]; decide) (by rw [q]; decide) (by rw [q]; rfl) (by decide) ?_
      exact lc_digest C1 hSy hN hP hA hS hl hi hM1 hd1 hc1 hs1 (kk d0 hd0)
    have q18 : x.toInt ≠ 18 := ti_ne k18
    refine lv_tableOut (tgt := 1266) hx hb dL_law_39 (by omega) (by decide) ?_
    exact W.widen (by omega) (by omega) (kk d0 hd0 L f D E M H locs ls hSy hN hP hA hS hl (by omega) (by omega))
