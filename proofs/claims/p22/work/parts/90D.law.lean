/-! ===== the law, piece D ===== -/
set_option maxHeartbeats 8000000 in
set_option maxRecDepth 100000 in
theorem lw_D {p : Program} {l : Launch} {e : Env} {s : State} {m : MethodId} {args : Array Value} {below : List Frame} {meth : Method} {c : Code} {Q : State → Prop} {g : GG} {t lo : Nat} {L0 : List Nat} {b : SmA} {o : OB} {M cells slots : Nat} {H : Heap} {locs : List Loc} {ls : Array Slot} {Lw : List Nat} {fw : Nat → va_E} {q8 q9 bs : Nat} {fa fb : Nat → Nat} {x3 x4 : Int32} (C : LK p l s m args c cL_law 32 wsL_law RL g t L0) (hok : OkO M o) (hM : M + 300 < 2 ^ 28) (hW : WD g t lo b o o Lw fw (AA L0 s.heap.size) s.heap H locs) (hl : lv_has ls 32 [(10, .int (countO o 3)), (9, .ref q9), (8, .ref q8), (7, .int (nI o.nv)), (6, .int (nI o.n)), (5, .int (nI o.d)), (4, .int x4), (3, .int x3), (2, .ref b.sm), (1, .ref lo), (0, .ref bs)]) (T8 : TB g Lw fw q8 7 o.nv fa KA (aboutO o)) (T9 : TB g Lw fw q9 o.n o.nv fb KA (wtsO o)) (hD : ∀ u v, u < o.nv → v < o.nv → fa u ≠ fb v) (hc : cells + 240 ≤ 1200130) (hs : slots + 1440 ≤ 5501080) (kk : ∀ (H : Heap) (locs : List Loc) (ls : Array Slot), WD g t lo b o o Lw fw (AA L0 s.heap.size) s.heap H locs → lv_has ls 32 [(10, .int (countO o 3)), (9, .ref q9), (8, .ref q8), (7, .int (nI o.nv)), (6, .int (nI o.n)), (5, .int (nI o.d)), (4, .int x4), (3, .int x3), (2, .ref b.sm), (1, .ref lo), (0, .ref bs)] → W p l e room_1 s m args below meth c H locs (cells + 240) (slots + 1440) Q (F0 m 540 ls [])) : W p l e room_1 s m args below meth c H locs cells slots Q (F0 m 437 ls []) := by
  obtain ⟨hx, hb, hml, hts, hown, hK, hZ, hDS, hst⟩ := C
  have hi_X5 : ∀ w ∈ u_ws RX5 TX5 6, w ∈ wsL_law := by decide +kernel
  have hn := hok.hn
  have hnv := hok.hnv
  have hd := hok.hd
  refine lv_iconst (v := 1) hx hb dL_law_437 (by decide) ?_
  refine lv_istore (lv' := [(14, .int 1), (10, .int (countO o 3)), (9, .ref q9), (8, .ref q8), (7, .int (nI o.nv)), (6, .int (nI o.n)), (5, .int (nI o.d)), (4, .int x4), (3, .int x3), (2, .ref b.sm), (1, .ref lo), (0, .ref bs)]) hx hb dL_law_438 hl (by decide) rfl (fun ls hl => ?_)
  have K440 : ∀ (n440 : Nat) (k : Nat) (H : Heap) (locs : List Loc), o.nv + 1 - k < n440 → 1 ≤ k → k ≤ o.nv + 1 → WD g t lo b o o Lw fw (AA L0 s.heap.size) s.heap H locs → ∀ (ls : Array Slot), lv_has ls 32 [(14, .int (nI k)), (10, .int (countO o 3)), (9, .ref q9), (8, .ref q8), (7, .int (nI o.nv)), (6, .int (nI o.n)), (5, .int (nI o.d)), (4, .int x4), (3, .int x3), (2, .ref b.sm), (1, .ref lo), (0, .ref bs)] → W p l e room_1 s m args below meth c H locs (cells + 30 * k) (slots + 180 * k) Q (F0 m 440 ls []) := by
    intro n440
    induction n440 with
    | zero => intros; omega
    | succ n440 ih440 =>
      intro k H locs hm440 h1k hk hW ls hl
      refine lv_iload hx hb dL_law_440 (lv_at hl 0 rfl) ?_
      refine lv_iload hx hb dL_law_442 (lv_at hl 4 rfl) ?_
      refine lv_icmp_ge (tgt := 540) hx hb dL_law_444 (by decide) (fun c444 => ?_) (fun c444 => ?_)
      · skip
        have c444 : o.nv ≤ k := (nI_leI (a := o.nv) (b := k) (by omega) (by omega)).mp (show nI o.nv ≤ nI k from c444)
        exact W.widen (by omega) (by omega) (kk H locs ls (hW) (lv_sub hl [1, 2, 3, 4, 5, 6, 7, 8, 9, 10, 11] rfl))
      · skip
        have c444 : ¬ o.nv ≤ k := fun h => c444 ((nI_leI (a := o.nv) (b := k) (by omega) (by omega)).mpr h)
        refine lv_aload hx hb dL_law_447 (lv_at hl 3 rfl) ?_
        refine lv_aload_n hx hb dL_law_449 rfl (lv_at hl 10 rfl) ?_
        refine lv_iload hx hb dL_law_450 (lv_at hl 0 rfl) ?_
        refine u_at ⟨hx, hb, hml, hown, hts⟩ hst hK hZ hW hok (by omega) (pl := nI k) (at_ex hok (by omega) (by omega) (by omega)) (cwV 1 hts gL_law_X4_at rfl rfl rfl (by decide +kernel) ⟨Nat.le_of_ble_eq_true rfl, Nat.le_of_ble_eq_true rfl⟩) hl.1 (Nat.le_of_ble_eq_true rfl) dL_law_452 ⟨by show _ ≤ 1200130; omega, by show _ ≤ 5501080; omega⟩ (fun r452 H locs hr452 hW => ?_)
        obtain ⟨u, hv_u, rfl, hp_u⟩ := at_pl hok (by omega) (by omega) (by omega) hr452
        have hb_u := ab_b hok (by omega) (show u < 6 by omega)
        refine w_tref hx hb hK hW T8 (u := u) rfl (by omega) (by omega) dL_law_455 ?_
        refine lv_astore (lv' := [(15, .ref (fa u)), (14, .int (nI k)), (10, .int (countO o 3)), (9, .ref q9), (8, .ref q8), (7, .int (nI o.nv)), (6, .int (nI o.n)), (5, .int (nI o.d)), (4, .int x4), (3, .int x3), (2, .ref b.sm), (1, .ref lo), (0, .ref bs)]) hx hb dL_law_456 hl (by decide) rfl (fun ls hl => ?_)
        refine lv_aload hx hb dL_law_458 (lv_at hl 4 rfl) ?_
        refine lv_aload_n hx hb dL_law_460 rfl (lv_at hl 11 rfl) ?_
        refine lv_iload hx hb dL_law_461 (lv_at hl 1 rfl) ?_
        refine lv_iconst (v := 1) hx hb dL_law_463 (by decide) ?_
        refine lv_iadd hx hb dL_law_464 ?_
        refine lv_topi (fun v464 ev464 => ?_)
        rw [show v464 = nI (k + 1) from (ev464.trans (nat_add rfl rfl))]
        refine u_at ⟨hx, hb, hml, hown, hts⟩ hst hK hZ hW hok (by omega) (pl := nI (k + 1)) (at_ex hok (by omega) (by omega) (by omega)) (cwV 1 hts gL_law_X4_at rfl rfl rfl (by decide +kernel) ⟨Nat.le_of_ble_eq_true rfl, Nat.le_of_ble_eq_true rfl⟩) hl.1 (Nat.le_of_ble_eq_true rfl) dL_law_465 ⟨by show _ ≤ 1200130; omega, by show _ ≤ 5501080; omega⟩ (fun r465 H locs hr465 hW => ?_)
        obtain ⟨w, hv_w, rfl, hp_w⟩ := at_pl hok (by omega) (by omega) (by omega) hr465
        have hb_w := ab_b hok (by omega) (show w < 6 by omega)
        have hA := pl_nxt hok (by omega) hv_u hv_w hp_u hp_w
        refine w_tref hx hb hK hW T8 (u := w) rfl (by omega) (by omega) dL_law_468 ?_
        refine lv_astore (lv' := [(16, .ref (fa w)), (15, .ref (fa u)), (14, .int (nI k)), (10, .int (countO o 3)), (9, .ref q9), (8, .ref q8), (7, .int (nI o.nv)), (6, .int (nI o.n)), (5, .int (nI o.d)), (4, .int x4), (3, .int x3), (2, .ref b.sm), (1, .ref lo), (0, .ref bs)]) hx hb dL_law_469 hl (by decide) rfl (fun ls hl => ?_)
        refine lv_aload hx hb dL_law_471 (lv_at hl 1 rfl) ?_
        refine lv_iconst (v := 0) hx hb dL_law_473 (by decide) ?_
        refine w_tld hx hb hK hW T8 (u := u) (j := 0) (by omega) rfl (by omega) (by omega) trivial dL_law_474 ?_
        refine lv_aload hx hb dL_law_475 (lv_at hl 0 rfl) ?_
        refine lv_iconst (v := 0) hx hb dL_law_477 (by decide) ?_
        refine w_tld hx hb hK hW T8 (u := w) (j := 0) (by omega) rfl (by omega) (by omega) trivial dL_law_478 ?_
        rw [ab0 hok (by omega) (show u < 6 by omega), ab0 hok (by omega) (show w < 6 by omega)]
        refine lv_icmp_lt (tgt := 532) hx hb dL_law_479 (by decide) (fun c479 => by exfalso; have c479 := (nI_ltI (a := pO o u) (b := pO o w) (by omega) (by omega)).mp (show nI (pO o u) < nI (pO o w) from c479); omega) (fun c479 => ?_)
        have c479 : ¬ pO o u < pO o w := fun h => c479 ((nI_ltI (a := pO o u) (b := pO o w) (by omega) (by omega)).mpr h)
        refine lv_aload hx hb dL_law_482 (lv_at hl 1 rfl) ?_
        refine lv_iconst (v := 0) hx hb dL_law_484 (by decide) ?_
        refine w_tld hx hb hK hW T8 (u := u) (j := 0) (by omega) rfl (by omega) (by omega) trivial dL_law_485 ?_
        refine lv_aload hx hb dL_law_486 (lv_at hl 0 rfl) ?_
        refine lv_iconst (v := 0) hx hb dL_law_488 (by decide) ?_
        refine w_tld hx hb hK hW T8 (u := w) (j := 0) (by omega) rfl (by omega) (by omega) trivial dL_law_489 ?_
        rw [ab0 hok (by omega) (show u < 6 by omega), ab0 hok (by omega) (show w < 6 by omega)]
        refine lv_icmp_ne (tgt := 534) hx hb dL_law_490 (by decide) (fun c490 => ?_) (fun c490 => ?_)
        · skip
          have c490 : ¬ pO o u = pO o w := fun h => c490 ((nI_eq (a := pO o u) (b := pO o w) (by omega) (by omega)).mpr h)
          refine lv_iinc (v := nI (k + 1)) (lv' := [(14, .int (nI (k + 1))), (16, .ref (fa w)), (15, .ref (fa u)), (10, .int (countO o 3)), (9, .ref q9), (8, .ref q8), (7, .int (nI o.nv)), (6, .int (nI o.n)), (5, .int (nI o.d)), (4, .int x4), (3, .int x3), (2, .ref b.sm), (1, .ref lo), (0, .ref bs)]) hx hb dL_law_534 hl (k := 2) rfl (nI_1 _) (by decide) rfl (fun ls hl => ?_)
          refine lv_goto (tgt := 440) hx hb dL_law_537 (by decide) ?_
          refine W.widen (by omega) (by omega) (ih440 (k + 1) H locs (by omega) (by omega) (by omega) (hW) ls (lv_sub hl [0, 3, 4, 5, 6, 7, 8, 9, 10, 11, 12, 13] rfl))
        · skip
          have c490 : pO o u = pO o w := (nI_eq (a := pO o u) (b := pO o w) (by omega) (by omega)).mp (show nI (pO o u) = nI (pO o w) from c490)
          refine lv_aload hx hb dL_law_493 (lv_at hl 1 rfl) ?_
          refine lv_iconst (v := 1) hx hb dL_law_495 (by decide) ?_
          refine w_tld hx hb hK hW T8 (u := u) (j := 1) (by omega) rfl (by omega) (by omega) trivial dL_law_496 ?_
          refine lv_aload hx hb dL_law_497 (lv_at hl 0 rfl) ?_
          refine lv_iconst (v := 1) hx hb dL_law_499 (by decide) ?_
          refine w_tld hx hb hK hW T8 (u := w) (j := 1) (by omega) rfl (by omega) (by omega) trivial dL_law_500 ?_
          rw [ab1 hok (by omega) (show u < 6 by omega), ab1 hok (by omega) (show w < 6 by omega)]
          refine lv_icmp_lt (tgt := 532) hx hb dL_law_501 (by decide) (fun c501 => by exfalso; have c501 := (nI_ltI (a := cO o u) (b := cO o w) (by omega) (by omega)).mp (show nI (cO o u) < nI (cO o w) from c501); omega) (fun c501 => ?_)
          have c501 : ¬ cO o u < cO o w := fun h => c501 ((nI_ltI (a := cO o u) (b := cO o w) (by omega) (by omega)).mpr h)
          refine lv_aload hx hb dL_law_504 (lv_at hl 1 rfl) ?_
          refine lv_iconst (v := 1) hx hb dL_law_506 (by decide) ?_
          refine w_tld hx hb hK hW T8 (u := u) (j := 1) (by omega) rfl (by omega) (by omega) trivial dL_law_507 ?_
          refine lv_aload hx hb dL_law_508 (lv_at hl 0 rfl) ?_
          refine lv_iconst (v := 1) hx hb dL_law_510 (by decide) ?_
          refine w_tld hx hb hK hW T8 (u := w) (j := 1) (by omega) rfl (by omega) (by omega) trivial dL_law_511 ?_
          rw [ab1 hok (by omega) (show u < 6 by omega), ab1 hok (by omega) (show w < 6 by omega)]
          refine lv_icmp_ne (tgt := 534) hx hb dL_law_512 (by decide) (fun c512 => ?_) (fun c512 => ?_)
          · skip
            have c512 : ¬ cO o u = cO o w := fun h => c512 ((nI_eq (a := cO o u) (b := cO o w) (by omega) (by omega)).mpr h)
            refine lv_iinc (v := nI (k + 1)) (lv' := [(14, .int (nI (k + 1))), (16, .ref (fa w)), (15, .ref (fa u)), (10, .int (countO o 3)), (9, .ref q9), (8, .ref q8), (7, .int (nI o.nv)), (6, .int (nI o.n)), (5, .int (nI o.d)), (4, .int x4), (3, .int x3), (2, .ref b.sm), (1, .ref lo), (0, .ref bs)]) hx hb dL_law_534 hl (k := 2) rfl (nI_1 _) (by decide) rfl (fun ls hl => ?_)
            refine lv_goto (tgt := 440) hx hb dL_law_537 (by decide) ?_
            refine W.widen (by omega) (by omega) (ih440 (k + 1) H locs (by omega) (by omega) (by omega) (hW) ls (lv_sub hl [0, 3, 4, 5, 6, 7, 8, 9, 10, 11, 12, 13] rfl))
          · skip
            have c512 : cO o u = cO o w := (nI_eq (a := cO o u) (b := cO o w) (by omega) (by omega)).mp (show nI (cO o u) = nI (cO o w) from c512)
            refine lv_aload_n hx hb dL_law_515 rfl (lv_at hl 12 rfl) ?_
            refine lv_iload hx hb dL_law_516 (lv_at hl 2 rfl) ?_
            refine u_at ⟨hx, hb, hml, hown, hts⟩ hst hK hZ hW hok (by omega) (pl := nI k) (at_ex hok (by omega) (by omega) (by omega)) (cwV 1 hts gL_law_X4_at rfl rfl rfl (by decide +kernel) ⟨Nat.le_of_ble_eq_true rfl, Nat.le_of_ble_eq_true rfl⟩) hl.1 (Nat.le_of_ble_eq_true rfl) dL_law_518 ⟨by show _ ≤ 1200130; omega, by show _ ≤ 5501080; omega⟩ (fun r518 H locs hr518 hW => ?_)
            obtain ⟨u2, hv_u2, rfl, hp_u2⟩ := at_pl hok (by omega) (by omega) (by omega) hr518
            rw [plO_inj hok (by omega) hv_u2 hv_u (hp_u2.trans hp_u.symm)]
            refine lv_aload_n hx hb dL_law_521 rfl (lv_at hl 12 rfl) ?_
            refine lv_iload hx hb dL_law_522 (lv_at hl 2 rfl) ?_
            refine lv_iconst (v := 1) hx hb dL_law_524 (by decide) ?_
            refine lv_iadd hx hb dL_law_525 ?_
            refine lv_topi (fun v525 ev525 => ?_)
            rw [show v525 = nI (k + 1) from (ev525.trans (nat_add rfl rfl))]
            refine u_at ⟨hx, hb, hml, hown, hts⟩ hst hK hZ hW hok (by omega) (pl := nI (k + 1)) (at_ex hok (by omega) (by omega) (by omega)) (cwV 1 hts gL_law_X4_at rfl rfl rfl (by decide +kernel) ⟨Nat.le_of_ble_eq_true rfl, Nat.le_of_ble_eq_true rfl⟩) hl.1 (Nat.le_of_ble_eq_true rfl) dL_law_526 ⟨by show _ ≤ 1200130; omega, by show _ ≤ 5501080; omega⟩ (fun r526 H locs hr526 hW => ?_)
            obtain ⟨w2, hv_w2, rfl, hp_w2⟩ := at_pl hok (by omega) (by omega) (by omega) hr526
            rw [plO_inj hok (by omega) hv_w2 hv_w (hp_w2.trans hp_w.symm)]
            refine lv_icmp_le (tgt := 534) hx hb dL_law_529 (by decide) (fun c529 => ?_) (fun c529 => by exfalso; exact c529 ((nI_leI (a := u) (b := w) (by omega) (by omega)).mpr (by omega)))
            have c529 : u ≤ w := (nI_leI (a := u) (b := w) (by omega) (by omega)).mp (show nI u ≤ nI w from c529)
            refine lv_iinc (v := nI (k + 1)) (lv' := [(14, .int (nI (k + 1))), (16, .ref (fa w)), (15, .ref (fa u)), (10, .int (countO o 3)), (9, .ref q9), (8, .ref q8), (7, .int (nI o.nv)), (6, .int (nI o.n)), (5, .int (nI o.d)), (4, .int x4), (3, .int x3), (2, .ref b.sm), (1, .ref lo), (0, .ref bs)]) hx hb dL_law_534 hl (k := 2) rfl (nI_1 _) (by decide) rfl (fun ls hl => ?_)
            refine lv_goto (tgt := 440) hx hb dL_law_537 (by decide) ?_
            refine W.widen (by omega) (by omega) (ih440 (k + 1) H locs (by omega) (by omega) (by omega) (hW) ls (lv_sub hl [0, 3, 4, 5, 6, 7, 8, 9, 10, 11, 12, 13] rfl))
  refine W.widen (by omega) (by omega) (K440 _ 1 H locs (Nat.lt_succ_self _) (by omega) (by omega) (hW) ls (lv_sub hl [0, 1, 2, 3, 4, 5, 6, 7, 8, 9, 10, 11] rfl))
