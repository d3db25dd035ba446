/-! ===== the law, piece E ===== -/
set_option maxHeartbeats 8000000 in
set_option maxRecDepth 100000 in
theorem lw_E {p : Program} {l : Launch} {e : Env} {s : State} {m : MethodId} {args : Array Value} {below : List Frame} {meth : Method} {c : Code} {Q : State → Prop} {g : GG} {t lo : Nat} {L0 : List Nat} {b : SmA} {o : OB} {M cells slots : Nat} {H : Heap} {locs : List Loc} {ls : Array Slot} {Lw : List Nat} {fw : Nat → va_E} {q8 q9 bs : Nat} {fa fb : Nat → Nat} {x3 x4 : Int32} (C : LK p l s m args c cL_law 32 wsL_law RL g t L0) (hok : OkO M o) (hM : M + 300 < 2 ^ 28) (hW : WD g t lo b o o Lw fw (AA L0 s.heap.size) s.heap H locs) (hl : lv_has ls 32 [(10, .int (countO o 3)), (9, .ref q9), (8, .ref q8), (7, .int (nI o.nv)), (6, .int (nI o.n)), (5, .int (nI o.d)), (4, .int x4), (3, .int x3), (2, .ref b.sm), (1, .ref lo), (0, .ref bs)])  (hc : cells + 110 ≤ 1200130) (hs : slots + 640 ≤ 5501080) (kk : ∀ (H : Heap) (locs : List Loc) (ls : Array Slot), WD g t lo b o o Lw fw (AA L0 s.heap.size) s.heap H locs → lv_has ls 32 [(10, .int (countO o 3)), (9, .ref q9), (8, .ref q8), (7, .int (nI o.nv)), (6, .int (nI o.n)), (5, .int (nI o.d)), (4, .int x4), (3, .int x3), (2, .ref b.sm), (1, .ref lo), (0, .ref bs)] → W p l e room_1 s m args below meth c H locs (cells + 110) (slots + 640) Q (F0 m 640 ls [])) : W p l e room_1 s m args below meth c H locs cells slots Q (F0 m 540 ls []) := by
  obtain ⟨hx, hb, hml, hts, hown, hK, hZ, hDS, hst⟩ := C
  have hi_X5 : ∀ w ∈ u_ws RX5 TX5 6, w ∈ wsL_law := by decide +kernel
  have hn := hok.hn
  have hnv := hok.hnv
  have hd := hok.hd
  refine lv_aload_n hx hb dL_law_540 rfl (lv_at hl 9 rfl) ?_
  refine u_best ⟨hx, hb, hml, hown, hts⟩ hK hW (cwV 0 hts gL_law_X4_best rfl rfl rfl (by decide +kernel) ⟨Nat.le_of_ble_eq_true rfl, Nat.le_of_ble_eq_true rfl⟩) hl.1 (Nat.le_of_ble_eq_true rfl) dL_law_541 ⟨by show _ ≤ 1200130; omega, by show _ ≤ 5501080; omega⟩  ?_
  rcases bestO_n o with ⟨hn0, e9⟩ | ⟨i9, hF, e9⟩
  · rw [e9]
    refine lv_istore (lv' := [(14, .int (-1)), (10, .int (countO o 3)), (9, .ref q9), (8, .ref q8), (7, .int (nI o.nv)), (6, .int (nI o.n)), (5, .int (nI o.d)), (4, .int x4), (3, .int x3), (2, .ref b.sm), (1, .ref lo), (0, .ref bs)]) hx hb dL_law_544 hl (by decide) rfl (fun ls hl => ?_)
    refine lv_iconst (v := 0) hx hb dL_law_546 (by decide) ?_
    refine lv_istore (lv' := [(15, .int 0), (14, .int (-1)), (10, .int (countO o 3)), (9, .ref q9), (8, .ref q8), (7, .int (nI o.nv)), (6, .int (nI o.n)), (5, .int (nI o.d)), (4, .int x4), (3, .int x3), (2, .ref b.sm), (1, .ref lo), (0, .ref bs)]) hx hb dL_law_547 hl (by decide) rfl (fun ls hl => ?_)
    refine lv_iload hx hb dL_law_549 (lv_at hl 0 rfl) ?_
    refine lv_iload hx hb dL_law_551 (lv_at hl 6 rfl) ?_
    refine lv_icmp_ge (tgt := 627) hx hb dL_law_553 (by decide) (fun c553 => ?_) (fun c553 => by exfalso; exact c553 ((nI_leI (a := o.n) (b := 0) (by omega) (by omega)).mpr (by omega)))
    have c553 : o.n ≤ 0 := (nI_leI (a := o.n) (b := 0) (by omega) (by omega)).mp (show nI o.n ≤ nI 0 from c553)
    refine lv_iload hx hb dL_law_627 (lv_at hl 6 rfl) ?_
    refine lv_if_ne (tgt := 640) hx hb dL_law_629 (by decide) (fun c629 => by exfalso; exact c629 ((nI_eq (a := o.n) (b := 0) (by omega) (by omega)).mpr (by omega))) (fun c629 => ?_)
    have c629 : o.n = 0 := (nI_eq (a := o.n) (b := 0) (by omega) (by omega)).mp (show nI o.n = nI 0 from c629)
    refine lv_iload hx hb dL_law_632 (lv_at hl 1 rfl) ?_
    refine lv_iconst (v := (-1)) hx hb dL_law_634 (by decide) ?_
    refine lv_icmp_eq (tgt := 640) hx hb dL_law_635 (by decide) (fun _ => ?_) (fun h => absurd rfl h)
    exact W.widen (by omega) (by omega) (kk H locs ls (hW) (lv_sub hl [2, 3, 4, 5, 6, 7, 8, 9, 10, 11, 12] rfl))
  · rw [e9]
    have hi9 := hF.2.1
    refine lv_istore (lv' := [(14, .int (nI i9)), (10, .int (countO o 3)), (9, .ref q9), (8, .ref q8), (7, .int (nI o.nv)), (6, .int (nI o.n)), (5, .int (nI o.d)), (4, .int x4), (3, .int x3), (2, .ref b.sm), (1, .ref lo), (0, .ref bs)]) hx hb dL_law_544 hl (by decide) rfl (fun ls hl => ?_)
    refine lv_iconst (v := 0) hx hb dL_law_546 (by decide) ?_
    refine lv_istore (lv' := [(15, .int 0), (14, .int (nI i9)), (10, .int (countO o 3)), (9, .ref q9), (8, .ref q8), (7, .int (nI o.nv)), (6, .int (nI o.n)), (5, .int (nI o.d)), (4, .int x4), (3, .int x3), (2, .ref b.sm), (1, .ref lo), (0, .ref bs)]) hx hb dL_law_547 hl (by decide) rfl (fun ls hl => ?_)
    have K549 : ∀ (n549 : Nat) (k : Nat) (H : Heap) (locs : List Loc), o.n - k < n549 → k ≤ o.n → WD g t lo b o o Lw fw (AA L0 s.heap.size) s.heap H locs → ∀ (ls : Array Slot), lv_has ls 32 [(15, .int (nI k)), (14, .int (nI i9)), (10, .int (countO o 3)), (9, .ref q9), (8, .ref q8), (7, .int (nI o.nv)), (6, .int (nI o.n)), (5, .int (nI o.d)), (4, .int x4), (3, .int x3), (2, .ref b.sm), (1, .ref lo), (0, .ref bs)] → W p l e room_1 s m args below meth c H locs (cells + 12 * k) (slots + 72 * k) Q (F0 m 549 ls []) := by
      intro n549
      induction n549 with
      | zero => intros; omega
      | succ n549 ih549 =>
        intro k H locs hm549 hk hW ls hl
        refine lv_iload hx hb dL_law_549 (lv_at hl 0 rfl) ?_
        refine lv_iload hx hb dL_law_551 (lv_at hl 6 rfl) ?_
        refine lv_icmp_ge (tgt := 627) hx hb dL_law_553 (by decide) (fun c553 => ?_) (fun c553 => ?_)
        · skip
          have c553 : o.n ≤ k := (nI_leI (a := o.n) (b := k) (by omega) (by omega)).mp (show nI o.n ≤ nI k from c553)
          refine lv_iload hx hb dL_law_627 (lv_at hl 6 rfl) ?_
          refine lv_if_ne (tgt := 640) hx hb dL_law_629 (by decide) (fun c629 => ?_) (fun c629 => by exfalso; have c629 := (nI_eq (a := o.n) (b := 0) (by omega) (by omega)).mp (show nI o.n = nI 0 from c629); omega)
          have c629 : ¬ o.n = 0 := fun h => c629 ((nI_eq (a := o.n) (b := 0) (by omega) (by omega)).mpr h)
          exact W.widen (by omega) (by omega) (kk H locs ls (hW) (lv_sub hl [2, 3, 4, 5, 6, 7, 8, 9, 10, 11, 12] rfl))
        · skip
          have c553 : ¬ o.n ≤ k := fun h => c553 ((nI_leI (a := o.n) (b := k) (by omega) (by omega)).mpr h)
          have hq1 := hF.2.2.1 k (Nat.zero_le _) (by omega)
          have hq2 : i9 ≤ k ∨ rtO o k < rtO o i9 := (Nat.lt_or_ge k i9).elim (fun h => Or.inr (hF.2.2.2 k (Nat.zero_le _) h)) Or.inl
          have hq3 := rt_le o k
          have hq4 := rt_le o i9
          refine lv_aload_n hx hb dL_law_556 rfl (lv_at hl 11 rfl) ?_
          refine lv_iload hx hb dL_law_557 (lv_at hl 0 rfl) ?_
          refine lv_iconst (v := 2) hx hb dL_law_559 (by decide) ?_
          refine u_told ⟨hx, hb, hml, hown, hts⟩ hst hK hZ hW hok (by omega) (j := k) (k := 2) (by omega) (by omega) (cwV 2 hts gL_law_X4_told rfl rfl rfl (by decide +kernel) ⟨Nat.le_of_ble_eq_true rfl, Nat.le_of_ble_eq_true rfl⟩) hl.1 (Nat.le_of_ble_eq_true rfl) dL_law_560 ⟨by show _ ≤ 1200130; omega, by show _ ≤ 5501080; omega⟩ (fun H locs hW => ?_)
          rw [show toldO o k 2 = nI (rtO o k) from right_n o k]
          refine lv_if_lt (tgt := 619) hx hb dL_law_563 (by decide) (fun c563 => by exfalso; have c563 := (nI_ltI (a := rtO o k) (b := 0) (by omega) (by omega)).mp (show nI (rtO o k) < nI 0 from c563); omega) (fun c563 => ?_)
          have c563 : ¬ rtO o k < 0 := fun h => c563 ((nI_ltI (a := rtO o k) (b := 0) (by omega) (by omega)).mpr h)
          refine lv_aload_n hx hb dL_law_566 rfl (lv_at hl 11 rfl) ?_
          refine lv_iload hx hb dL_law_567 (lv_at hl 0 rfl) ?_
          refine lv_iconst (v := 2) hx hb dL_law_569 (by decide) ?_
          refine u_told ⟨hx, hb, hml, hown, hts⟩ hst hK hZ hW hok (by omega) (j := k) (k := 2) (by omega) (by omega) (cwV 2 hts gL_law_X4_told rfl rfl rfl (by decide +kernel) ⟨Nat.le_of_ble_eq_true rfl, Nat.le_of_ble_eq_true rfl⟩) hl.1 (Nat.le_of_ble_eq_true rfl) dL_law_570 ⟨by show _ ≤ 1200130; omega, by show _ ≤ 5501080; omega⟩ (fun H locs hW => ?_)
          rw [show toldO o k 2 = nI (rtO o k) from right_n o k]
          refine lv_bipush (v := 12) hx hb dL_law_573 (by decide) ?_
          refine lv_icmp_gt (tgt := 619) hx hb dL_law_575 (by decide) (fun c575 => by exfalso; have c575 := (nI_ltI (a := 12) (b := rtO o k) (by omega) (by omega)).mp (show nI 12 < nI (rtO o k) from c575); omega) (fun c575 => ?_)
          have c575 : ¬ 12 < rtO o k := fun h => c575 ((nI_ltI (a := 12) (b := rtO o k) (by omega) (by omega)).mpr h)
          refine lv_aload_n hx hb dL_law_578 rfl (lv_at hl 11 rfl) ?_
          refine lv_iload hx hb dL_law_579 (lv_at hl 0 rfl) ?_
          refine lv_iconst (v := 2) hx hb dL_law_581 (by decide) ?_
          refine u_told ⟨hx, hb, hml, hown, hts⟩ hst hK hZ hW hok (by omega) (j := k) (k := 2) (by omega) (by omega) (cwV 2 hts gL_law_X4_told rfl rfl rfl (by decide +kernel) ⟨Nat.le_of_ble_eq_true rfl, Nat.le_of_ble_eq_true rfl⟩) hl.1 (Nat.le_of_ble_eq_true rfl) dL_law_582 ⟨by show _ ≤ 1200130; omega, by show _ ≤ 5501080; omega⟩ (fun H locs hW => ?_)
          rw [show toldO o k 2 = nI (rtO o k) from right_n o k]
          refine lv_aload_n hx hb dL_law_585 rfl (lv_at hl 11 rfl) ?_
          refine lv_iload hx hb dL_law_586 (lv_at hl 1 rfl) ?_
          refine lv_iconst (v := 2) hx hb dL_law_588 (by decide) ?_
          refine u_told ⟨hx, hb, hml, hown, hts⟩ hst hK hZ hW hok (by omega) (j := i9) (k := 2) (by omega) (by omega) (cwV 2 hts gL_law_X4_told rfl rfl rfl (by decide +kernel) ⟨Nat.le_of_ble_eq_true rfl, Nat.le_of_ble_eq_true rfl⟩) hl.1 (Nat.le_of_ble_eq_true rfl) dL_law_589 ⟨by show _ ≤ 1200130; omega, by show _ ≤ 5501080; omega⟩ (fun H locs hW => ?_)
          rw [show toldO o i9 2 = nI (rtO o i9) from right_n o i9]
          refine lv_icmp_gt (tgt := 619) hx hb dL_law_592 (by decide) (fun c592 => by exfalso; have c592 := (nI_ltI (a := rtO o i9) (b := rtO o k) (by omega) (by omega)).mp (show nI (rtO o i9) < nI (rtO o k) from c592); omega) (fun c592 => ?_)
          have c592 : ¬ rtO o i9 < rtO o k := fun h => c592 ((nI_ltI (a := rtO o i9) (b := rtO o k) (by omega) (by omega)).mpr h)
          refine lv_aload_n hx hb dL_law_595 rfl (lv_at hl 11 rfl) ?_
          refine lv_iload hx hb dL_law_596 (lv_at hl 0 rfl) ?_
          refine lv_iconst (v := 2) hx hb dL_law_598 (by decide) ?_
          refine u_told ⟨hx, hb, hml, hown, hts⟩ hst hK hZ hW hok (by omega) (j := k) (k := 2) (by omega) (by omega) (cwV 2 hts gL_law_X4_told rfl rfl rfl (by decide +kernel) ⟨Nat.le_of_ble_eq_true rfl, Nat.le_of_ble_eq_true rfl⟩) hl.1 (Nat.le_of_ble_eq_true rfl) dL_law_599 ⟨by show _ ≤ 1200130; omega, by show _ ≤ 5501080; omega⟩ (fun H locs hW => ?_)
          rw [show toldO o k 2 = nI (rtO o k) from right_n o k]
          refine lv_aload_n hx hb dL_law_602 rfl (lv_at hl 11 rfl) ?_
          refine lv_iload hx hb dL_law_603 (lv_at hl 1 rfl) ?_
          refine lv_iconst (v := 2) hx hb dL_law_605 (by decide) ?_
          refine u_told ⟨hx, hb, hml, hown, hts⟩ hst hK hZ hW hok (by omega) (j := i9) (k := 2) (by omega) (by omega) (cwV 2 hts gL_law_X4_told rfl rfl rfl (by decide +kernel) ⟨Nat.le_of_ble_eq_true rfl, Nat.le_of_ble_eq_true rfl⟩) hl.1 (Nat.le_of_ble_eq_true rfl) dL_law_606 ⟨by show _ ≤ 1200130; omega, by show _ ≤ 5501080; omega⟩ (fun H locs hW => ?_)
          rw [show toldO o i9 2 = nI (rtO o i9) from right_n o i9]
          refine lv_icmp_ne (tgt := 621) hx hb dL_law_609 (by decide) (fun c609 => ?_) (fun c609 => ?_)
          · skip
            have c609 : ¬ rtO o k = rtO o i9 := fun h => c609 ((nI_eq (a := rtO o k) (b := rtO o i9) (by omega) (by omega)).mpr h)
            refine lv_iinc (v := nI (k + 1)) (lv' := [(15, .int (nI (k + 1))), (14, .int (nI i9)), (10, .int (countO o 3)), (9, .ref q9), (8, .ref q8), (7, .int (nI o.nv)), (6, .int (nI o.n)), (5, .int (nI o.d)), (4, .int x4), (3, .int x3), (2, .ref b.sm), (1, .ref lo), (0, .ref bs)]) hx hb dL_law_621 hl (k := 0) rfl (nI_1 _) (by decide) rfl (fun ls hl => ?_)
            refine lv_goto (tgt := 549) hx hb dL_law_624 (by decide) ?_
            refine W.widen (by omega) (by omega) (ih549 (k + 1) H locs (by omega) (by omega) (hW) ls (lv_sub hl [0, 1, 2, 3, 4, 5, 6, 7, 8, 9, 10, 11, 12] rfl))
          · skip
            have c609 : rtO o k = rtO o i9 := (nI_eq (a := rtO o k) (b := rtO o i9) (by omega) (by omega)).mp (show nI (rtO o k) = nI (rtO o i9) from c609)
            refine lv_iload hx hb dL_law_612 (lv_at hl 0 rfl) ?_
            refine lv_iload hx hb dL_law_614 (lv_at hl 1 rfl) ?_
            refine lv_icmp_ge (tgt := 621) hx hb dL_law_616 (by decide) (fun c616 => ?_) (fun c616 => by exfalso; exact c616 ((nI_leI (a := i9) (b := k) (by omega) (by omega)).mpr (by omega)))
            have c616 : i9 ≤ k := (nI_leI (a := i9) (b := k) (by omega) (by omega)).mp (show nI i9 ≤ nI k from c616)
            refine lv_iinc (v := nI (k + 1)) (lv' := [(15, .int (nI (k + 1))), (14, .int (nI i9)), (10, .int (countO o 3)), (9, .ref q9), (8, .ref q8), (7, .int (nI o.nv)), (6, .int (nI o.n)), (5, .int (nI o.d)), (4, .int x4), (3, .int x3), (2, .ref b.sm), (1, .ref lo), (0, .ref bs)]) hx hb dL_law_621 hl (k := 0) rfl (nI_1 _) (by decide) rfl (fun ls hl => ?_)
            refine lv_goto (tgt := 549) hx hb dL_law_624 (by decide) ?_
            refine W.widen (by omega) (by omega) (ih549 (k + 1) H locs (by omega) (by omega) (hW) ls (lv_sub hl [0, 1, 2, 3, 4, 5, 6, 7, 8, 9, 10, 11, 12] rfl))
    refine W.widen (by omega) (by omega) (K549 _ 0 H locs (Nat.lt_succ_self _) (by omega) (hW) ls (lv_sub hl [0, 1, 2, 3, 4, 5, 6, 7, 8, 9, 10, 11, 12] rfl))
