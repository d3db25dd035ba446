/-! ===== the law, piece G ===== -/
set_option maxHeartbeats 8000000 in
set_option maxRecDepth 100000 in
theorem lw_G {p : Program} {l : Launch} {e : Env} {s : State} {m : MethodId} {args : Array Value} {below : List Frame} {meth : Method} {c : Code} {Q : State → Prop} {g : GG} {t lo : Nat} {L0 : List Nat} {b : SmA} {o : OB} {M cells slots : Nat} {H : Heap} {locs : List Loc} {ls : Array Slot} {Lw : List Nat} {fw : Nat → va_E} {q8 q9 bs : Nat} {fa fb : Nat → Nat} {x3 x4 : Int32} {q17 : Nat} (C : LK p l s m args c cL_law 32 wsL_law RL g t L0) (hok : OkO M o) (hM : M + 300 < 2 ^ 28) (hW : WD g t lo b o o Lw fw (AA L0 s.heap.size) s.heap H locs) (hl : lv_has ls 32 [(17, .ref q17), (15, .long (digO o)), (10, .int (countO o 3)), (9, .ref q9), (8, .ref q8), (7, .int (nI o.nv)), (6, .int (nI o.n)), (5, .int (nI o.d)), (4, .int x4), (3, .int x3), (2, .ref b.sm), (1, .ref lo), (0, .ref bs)])  (hc : cells + 900 ≤ 1200130) (hs : slots + 5600 ≤ 5501080) (kk : ∀ (ov : Int32) (H : Heap) (locs : List Loc) (ls : Array Slot), OvK o ov → WD g t lo b o o Lw fw (AA L0 s.heap.size) s.heap H locs → lv_has ls 32 [(20, .int ov), (17, .ref q17), (10, .int (countO o 3)), (9, .ref q9), (8, .ref q8), (7, .int (nI o.nv)), (6, .int (nI o.n)), (5, .int (nI o.d)), (4, .int x4), (3, .int x3), (2, .ref b.sm), (1, .ref lo), (0, .ref bs)] → W p l e room_1 s m args below meth c H locs (cells + 900) (slots + 5600) Q (F0 m 807 ls [])) : W p l e room_1 s m args below meth c H locs cells slots Q (F0 m 680 ls []) := by
  obtain ⟨hx, hb, hml, hts, hown, hK, hZ, hDS, hst⟩ := C
  have hi_X5 : ∀ w ∈ u_ws RX5 TX5 6, w ∈ wsL_law := by decide +kernel
  have hn := hok.hn
  have hnv := hok.hnv
  have hd := hok.hd
  rcases (show o.nv = 0 ∨ o.nv = 1 ∨ 2 ≤ o.nv by omega) with h9 | h9 | h9
  · skip
    refine lv_iload hx hb dL_law_680 (lv_at hl 8 rfl) ?_
    refine lv_iconst (v := 5) hx hb dL_law_682 (by decide) ?_
    refine lv_ishr hx hb dL_law_683 ?_
    refine lv_topi (fun v683 ev683 => ?_)
    refine lv_iload hx hb dL_law_684 (lv_at hl 5 rfl) ?_
    refine lv_if_ne (tgt := 693) hx hb dL_law_686 (by decide) (fun c686 => by exfalso; exact c686 ((nI_eq (a := o.nv) (b := 0) (by omega) (by omega)).mpr (by omega))) (fun c686 => ?_)
    have c686 : o.nv = 0 := (nI_eq (a := o.nv) (b := 0) (by omega) (by omega)).mp (show nI o.nv = nI 0 from c686)
    refine lv_iconst (v := 1) hx hb dL_law_689 (by decide) ?_
    refine lv_goto (tgt := 695) hx hb dL_law_690 (by decide) ?_
    refine ro_S (As := [.int v683, .int (nI 1)]) (rest := []) ⟨hx, hb, hml, hown, hts⟩ (m_L_below l g (fun _ => eO 0 []) v683 1 (by omega) (by omega)) (va_cwS 2 hts gL_law_L_below rfl rfl rfl (by decide +kernel) ⟨Nat.le_of_ble_eq_true rfl, Nat.le_of_ble_eq_true rfl⟩) hK (PP.of (fun b hb => absurd hb List.not_mem_nil)) rfl hl.1 rfl (Nat.le_of_ble_eq_true rfl) dL_law_695 ⟨by show _ ≤ 1200130; omega, by show _ ≤ 5501080; omega⟩ (fun r695 hr695 => ?_)
    obtain ⟨k695, hk695, rfl⟩ := hr695
    refine lv_istore (lv' := [(18, .int (nI k695)), (17, .ref q17), (15, .long (digO o)), (10, .int (countO o 3)), (9, .ref q9), (8, .ref q8), (7, .int (nI o.nv)), (6, .int (nI o.n)), (5, .int (nI o.d)), (4, .int x4), (3, .int x3), (2, .ref b.sm), (1, .ref lo), (0, .ref bs)]) hx hb dL_law_698 hl (by decide) rfl (fun ls hl => ?_)
    refine lv_iload hx hb dL_law_700 (lv_at hl 6 rfl) ?_
    refine lv_if_ne (tgt := 709) hx hb dL_law_702 (by decide) (fun c702 => by exfalso; exact c702 ((nI_eq (a := o.nv) (b := 0) (by omega) (by omega)).mpr (by omega))) (fun c702 => ?_)
    have c702 : o.nv = 0 := (nI_eq (a := o.nv) (b := 0) (by omega) (by omega)).mp (show nI o.nv = nI 0 from c702)
    refine lv_iconst (v := (-1)) hx hb dL_law_705 (by decide) ?_
    refine lv_goto (tgt := 726) hx hb dL_law_706 (by decide) ?_
    refine lv_istore (lv' := [(19, .int (-1)), (18, .int (nI k695)), (17, .ref q17), (15, .long (digO o)), (10, .int (countO o 3)), (9, .ref q9), (8, .ref q8), (7, .int (nI o.nv)), (6, .int (nI o.n)), (5, .int (nI o.d)), (4, .int x4), (3, .int x3), (2, .ref b.sm), (1, .ref lo), (0, .ref bs)]) hx hb dL_law_726 hl (by decide) rfl (fun ls hl => ?_)
    refine lv_iload hx hb dL_law_728 (lv_at hl 7 rfl) ?_
    refine lv_iconst (v := 2) hx hb dL_law_730 (by decide) ?_
    refine lv_icmp_ge (tgt := 738) hx hb dL_law_731 (by decide) (fun c731 => by exfalso; have c731 := (nI_leI (a := 2) (b := o.nv) (by omega) (by omega)).mp (show nI 2 ≤ nI o.nv from c731); omega) (fun c731 => ?_)
    have c731 : ¬ 2 ≤ o.nv := fun h => c731 ((nI_leI (a := 2) (b := o.nv) (by omega) (by omega)).mpr h)
    refine lv_iconst (v := (-1)) hx hb dL_law_734 (by decide) ?_
    refine lv_goto (tgt := 752) hx hb dL_law_735 (by decide) ?_
    refine lv_istore (lv' := [(20, .int (-1)), (19, .int (-1)), (18, .int (nI k695)), (17, .ref q17), (15, .long (digO o)), (10, .int (countO o 3)), (9, .ref q9), (8, .ref q8), (7, .int (nI o.nv)), (6, .int (nI o.n)), (5, .int (nI o.d)), (4, .int x4), (3, .int x3), (2, .ref b.sm), (1, .ref lo), (0, .ref bs)]) hx hb dL_law_752 hl (by decide) rfl (fun ls hl => ?_)
    refine lv_iload hx hb dL_law_754 (lv_at hl 8 rfl) ?_
    refine lv_iconst (v := 1) hx hb dL_law_756 (by decide) ?_
    refine lv_icmp_le (tgt := 777) hx hb dL_law_757 (by decide) (fun c757 => ?_) (fun c757 => by exfalso; exact c757 ((nI_leI (a := o.nv) (b := 1) (by omega) (by omega)).mpr (by omega)))
    have c757 : o.nv ≤ 1 := (nI_leI (a := o.nv) (b := 1) (by omega) (by omega)).mp (show nI o.nv ≤ nI 1 from c757)
    refine lv_aload_n hx hb dL_law_777 rfl (lv_at hl 14 rfl) ?_
    refine u_digest ⟨hx, hb, hml, hown, hts⟩ hst hK hZ hW hok (by omega) (cwV 0 hts gL_law_X4_digest rfl rfl rfl (by decide +kernel) ⟨Nat.le_of_ble_eq_true rfl, Nat.le_of_ble_eq_true rfl⟩) hl.1 (Nat.le_of_ble_eq_true rfl) dL_law_778 ⟨by show _ ≤ 1200130; omega, by show _ ≤ 5501080; omega⟩ (fun H locs hW => ?_)
    refine lv_lload hx hb dL_law_781 (lv_at hl 4 rfl) ?_
    refine W.lcmp hx hb dL_law_783 ?_
    rw [cmp_0 rfl]
    refine lv_if_ne (tgt := 805) hx hb dL_law_784 (by decide) (fun h => absurd h (by decide)) (fun _ => ?_)
    refine lv_iload hx hb dL_law_787 (lv_at hl 1 rfl) ?_
    refine lv_iconst (v := (-1)) hx hb dL_law_789 (by decide) ?_
    refine lv_icmp_lt (tgt := 805) hx hb dL_law_790 (by decide) (fun h => absurd h (by decide)) (fun _ => ?_)
    refine lv_iload hx hb dL_law_793 (lv_at hl 1 rfl) ?_
    refine lv_iload hx hb dL_law_795 (lv_at hl 9 rfl) ?_
    refine lv_icmp_ge (tgt := 805) hx hb dL_law_797 (by decide) (fun h => absurd h (m1_lt (by omega))) (fun _ => ?_)
    refine lv_iload hx hb dL_law_800 (lv_at hl 0 rfl) ?_
    refine lv_if_ne (tgt := 807) hx hb dL_law_802 (by decide) (fun _ => ?_) (fun h => absurd h (by decide))
    exact W.widen (by omega) (by omega) (kk _ H locs ls (Or.inl ⟨by omega, rfl⟩) (hW) (lv_sub hl [0, 3, 5, 6, 7, 8, 9, 10, 11, 12, 13, 14, 15] rfl))
  · skip
    refine lv_iload hx hb dL_law_680 (lv_at hl 8 rfl) ?_
    refine lv_iconst (v := 5) hx hb dL_law_682 (by decide) ?_
    refine lv_ishr hx hb dL_law_683 ?_
    refine lv_topi (fun v683 ev683 => ?_)
    refine lv_iload hx hb dL_law_684 (lv_at hl 5 rfl) ?_
    refine lv_if_ne (tgt := 693) hx hb dL_law_686 (by decide) (fun c686 => ?_) (fun c686 => by exfalso; have c686 := (nI_eq (a := o.nv) (b := 0) (by omega) (by omega)).mp (show nI o.nv = nI 0 from c686); omega)
    have c686 : ¬ o.nv = 0 := fun h => c686 ((nI_eq (a := o.nv) (b := 0) (by omega) (by omega)).mpr h)
    refine lv_iload hx hb dL_law_693 (lv_at hl 5 rfl) ?_
    refine ro_S (As := [.int v683, .int (nI o.nv)]) (rest := []) ⟨hx, hb, hml, hown, hts⟩ (m_L_below l g (fun _ => eO 0 []) v683 o.nv (by omega) (by omega)) (va_cwS 2 hts gL_law_L_below rfl rfl rfl (by decide +kernel) ⟨Nat.le_of_ble_eq_true rfl, Nat.le_of_ble_eq_true rfl⟩) hK (PP.of (fun b hb => absurd hb List.not_mem_nil)) rfl hl.1 rfl (Nat.le_of_ble_eq_true rfl) dL_law_695 ⟨by show _ ≤ 1200130; omega, by show _ ≤ 5501080; omega⟩ (fun r695 hr695 => ?_)
    obtain ⟨k695, hk695, rfl⟩ := hr695
    refine lv_istore (lv' := [(18, .int (nI k695)), (17, .ref q17), (15, .long (digO o)), (10, .int (countO o 3)), (9, .ref q9), (8, .ref q8), (7, .int (nI o.nv)), (6, .int (nI o.n)), (5, .int (nI o.d)), (4, .int x4), (3, .int x3), (2, .ref b.sm), (1, .ref lo), (0, .ref bs)]) hx hb dL_law_698 hl (by decide) rfl (fun ls hl => ?_)
    refine lv_iload hx hb dL_law_700 (lv_at hl 6 rfl) ?_
    refine lv_if_ne (tgt := 709) hx hb dL_law_702 (by decide) (fun c702 => ?_) (fun c702 => by exfalso; have c702 := (nI_eq (a := o.nv) (b := 0) (by omega) (by omega)).mp (show nI o.nv = nI 0 from c702); omega)
    have c702 : ¬ o.nv = 0 := fun h => c702 ((nI_eq (a := o.nv) (b := 0) (by omega) (by omega)).mpr h)
    refine lv_aload_n hx hb dL_law_709 rfl (lv_at hl 12 rfl) ?_
    refine lv_iload hx hb dL_law_710 (lv_at hl 0 rfl) ?_
    refine lv_iconst (v := 1) hx hb dL_law_712 (by decide) ?_
    refine lv_iload hx hb dL_law_713 (lv_at hl 9 rfl) ?_
    refine lv_iconst (v := 4) hx hb dL_law_715 (by decide) ?_
    refine lv_ishr hx hb dL_law_716 ?_
    refine lv_topi (fun v716 ev716 => ?_)
    refine lv_bipush (v := 30) hx hb dL_law_717 (by decide) ?_
    refine ro_S (As := [.int v716, .int (nI 30)]) (rest := [.int 1, .int (nI k695), .ref lo]) ⟨hx, hb, hml, hown, hts⟩ (m_L_below l g (fun _ => eO 0 []) v716 30 (by omega) (by omega)) (va_cwS 2 hts gL_law_L_below rfl rfl rfl (by decide +kernel) ⟨Nat.le_of_ble_eq_true rfl, Nat.le_of_ble_eq_true rfl⟩) hK (PP.of (fun b hb => absurd hb List.not_mem_nil)) rfl hl.1 rfl (Nat.le_of_ble_eq_true rfl) dL_law_719 ⟨by show _ ≤ 1200130; omega, by show _ ≤ 5501080; omega⟩ (fun r719 hr719 => ?_)
    obtain ⟨k719, hk719, rfl⟩ := hr719
    refine lv_iadd hx hb dL_law_722 ?_
    refine lv_topi (fun v722 ev722 => ?_)
    rw [show v722 = nI (1 + k719) from (ev722.trans (nat_add rfl rfl))]
    refine u_advise ⟨hx, hb, hml, hown, hts⟩ hst hK hZ hW hok (by omega) (u := k695) (k := (1 + k719)) (by omega) (by omega) (by omega) (cwV 2 hts gL_law_X4_advise rfl rfl rfl (by decide +kernel) ⟨Nat.le_of_ble_eq_true rfl, Nat.le_of_ble_eq_true rfl⟩) hl.1 (Nat.le_of_ble_eq_true rfl) dL_law_723 ⟨by show _ ≤ 1200130; omega, by show _ ≤ 5501080; omega⟩ (fun r723 H locs hr723 hW => ?_)
    refine lv_istore (lv' := [(19, .int r723), (18, .int (nI k695)), (17, .ref q17), (15, .long (digO o)), (10, .int (countO o 3)), (9, .ref q9), (8, .ref q8), (7, .int (nI o.nv)), (6, .int (nI o.n)), (5, .int (nI o.d)), (4, .int x4), (3, .int x3), (2, .ref b.sm), (1, .ref lo), (0, .ref bs)]) hx hb dL_law_726 hl (by decide) rfl (fun ls hl => ?_)
    refine lv_iload hx hb dL_law_728 (lv_at hl 7 rfl) ?_
    refine lv_iconst (v := 2) hx hb dL_law_730 (by decide) ?_
    refine lv_icmp_ge (tgt := 738) hx hb dL_law_731 (by decide) (fun c731 => by exfalso; have c731 := (nI_leI (a := 2) (b := o.nv) (by omega) (by omega)).mp (show nI 2 ≤ nI o.nv from c731); omega) (fun c731 => ?_)
    have c731 : ¬ 2 ≤ o.nv := fun h => c731 ((nI_leI (a := 2) (b := o.nv) (by omega) (by omega)).mpr h)
    refine lv_iconst (v := (-1)) hx hb dL_law_734 (by decide) ?_
    refine lv_goto (tgt := 752) hx hb dL_law_735 (by decide) ?_
    refine lv_istore (lv' := [(20, .int (-1)), (19, .int r723), (18, .int (nI k695)), (17, .ref q17), (15, .long (digO o)), (10, .int (countO o 3)), (9, .ref q9), (8, .ref q8), (7, .int (nI o.nv)), (6, .int (nI o.n)), (5, .int (nI o.d)), (4, .int x4), (3, .int x3), (2, .ref b.sm), (1, .ref lo), (0, .ref bs)]) hx hb dL_law_752 hl (by decide) rfl (fun ls hl => ?_)
    refine lv_iload hx hb dL_law_754 (lv_at hl 8 rfl) ?_
    refine lv_iconst (v := 1) hx hb dL_law_756 (by decide) ?_
    refine lv_icmp_le (tgt := 777) hx hb dL_law_757 (by decide) (fun c757 => ?_) (fun c757 => by exfalso; exact c757 ((nI_leI (a := o.nv) (b := 1) (by omega) (by omega)).mpr (by omega)))
    have c757 : o.nv ≤ 1 := (nI_leI (a := o.nv) (b := 1) (by omega) (by omega)).mp (show nI o.nv ≤ nI 1 from c757)
    refine lv_aload_n hx hb dL_law_777 rfl (lv_at hl 14 rfl) ?_
    refine u_digest ⟨hx, hb, hml, hown, hts⟩ hst hK hZ hW hok (by omega) (cwV 0 hts gL_law_X4_digest rfl rfl rfl (by decide +kernel) ⟨Nat.le_of_ble_eq_true rfl, Nat.le_of_ble_eq_true rfl⟩) hl.1 (Nat.le_of_ble_eq_true rfl) dL_law_778 ⟨by show _ ≤ 1200130; omega, by show _ ≤ 5501080; omega⟩ (fun H locs hW => ?_)
    refine lv_lload hx hb dL_law_781 (lv_at hl 4 rfl) ?_
    refine W.lcmp hx hb dL_law_783 ?_
    rw [cmp_0 rfl]
    refine lv_if_ne (tgt := 805) hx hb dL_law_784 (by decide) (fun h => absurd h (by decide)) (fun _ => ?_)
    rcases hr723 with rfl | ⟨i19, hi19, rfl⟩
    · skip
      refine lv_iload hx hb dL_law_787 (lv_at hl 1 rfl) ?_
      refine lv_iconst (v := (-1)) hx hb dL_law_789 (by decide) ?_
      refine lv_icmp_lt (tgt := 805) hx hb dL_law_790 (by decide) (fun h => absurd h (by decide)) (fun _ => ?_)
      refine lv_iload hx hb dL_law_793 (lv_at hl 1 rfl) ?_
      refine lv_iload hx hb dL_law_795 (lv_at hl 9 rfl) ?_
      refine lv_icmp_ge (tgt := 805) hx hb dL_law_797 (by decide) (fun h => absurd h (m1_lt (by omega))) (fun _ => ?_)
      refine lv_iload hx hb dL_law_800 (lv_at hl 0 rfl) ?_
      refine lv_if_ne (tgt := 807) hx hb dL_law_802 (by decide) (fun _ => ?_) (fun h => absurd h (by decide))
      exact W.widen (by omega) (by omega) (kk _ H locs ls (Or.inl ⟨by omega, rfl⟩) (hW) (lv_sub hl [0, 3, 5, 6, 7, 8, 9, 10, 11, 12, 13, 14, 15] rfl))
    · skip
      refine lv_iload hx hb dL_law_787 (lv_at hl 1 rfl) ?_
      refine lv_iconst (v := (-1)) hx hb dL_law_789 (by decide) ?_
      refine lv_icmp_lt (tgt := 805) hx hb dL_law_790 (by decide) (fun h => absurd h (ne_m1 (by omega))) (fun _ => ?_)
      refine lv_iload hx hb dL_law_793 (lv_at hl 1 rfl) ?_
      refine lv_iload hx hb dL_law_795 (lv_at hl 9 rfl) ?_
      refine lv_icmp_ge (tgt := 805) hx hb dL_law_797 (by decide) (fun c797 => by exfalso; have c797 := (nI_leI (a := o.n) (b := i19) (by omega) (by omega)).mp (show nI o.n ≤ nI i19 from c797); omega) (fun c797 => ?_)
      have c797 : ¬ o.n ≤ i19 := fun h => c797 ((nI_leI (a := o.n) (b := i19) (by omega) (by omega)).mpr h)
      refine lv_iload hx hb dL_law_800 (lv_at hl 0 rfl) ?_
      refine lv_if_ne (tgt := 807) hx hb dL_law_802 (by decide) (fun _ => ?_) (fun h => absurd h (by decide))
      exact W.widen (by omega) (by omega) (kk _ H locs ls (Or.inl ⟨by omega, rfl⟩) (hW) (lv_sub hl [0, 3, 5, 6, 7, 8, 9, 10, 11, 12, 13, 14, 15] rfl))
  · skip
    refine lv_iload hx hb dL_law_680 (lv_at hl 8 rfl) ?_
    refine lv_iconst (v := 5) hx hb dL_law_682 (by decide) ?_
    refine lv_ishr hx hb dL_law_683 ?_
    refine lv_topi (fun v683 ev683 => ?_)
    refine lv_iload hx hb dL_law_684 (lv_at hl 5 rfl) ?_
    refine lv_if_ne (tgt := 693) hx hb dL_law_686 (by decide) (fun c686 => ?_) (fun c686 => by exfalso; have c686 := (nI_eq (a := o.nv) (b := 0) (by omega) (by omega)).mp (show nI o.nv = nI 0 from c686); omega)
    have c686 : ¬ o.nv = 0 := fun h => c686 ((nI_eq (a := o.nv) (b := 0) (by omega) (by omega)).mpr h)
    refine lv_iload hx hb dL_law_693 (lv_at hl 5 rfl) ?_
    refine ro_S (As := [.int v683, .int (nI o.nv)]) (rest := []) ⟨hx, hb, hml, hown, hts⟩ (m_L_below l g (fun _ => eO 0 []) v683 o.nv (by omega) (by omega)) (va_cwS 2 hts gL_law_L_below rfl rfl rfl (by decide +kernel) ⟨Nat.le_of_ble_eq_true rfl, Nat.le_of_ble_eq_true rfl⟩) hK (PP.of (fun b hb => absurd hb List.not_mem_nil)) rfl hl.1 rfl (Nat.le_of_ble_eq_true rfl) dL_law_695 ⟨by show _ ≤ 1200130; omega, by show _ ≤ 5501080; omega⟩ (fun r695 hr695 => ?_)
    obtain ⟨k695, hk695, rfl⟩ := hr695
    refine lv_istore (lv' := [(18, .int (nI k695)), (17, .ref q17), (15, .long (digO o)), (10, .int (countO o 3)), (9, .ref q9), (8, .ref q8), (7, .int (nI o.nv)), (6, .int (nI o.n)), (5, .int (nI o.d)), (4, .int x4), (3, .int x3), (2, .ref b.sm), (1, .ref lo), (0, .ref bs)]) hx hb dL_law_698 hl (by decide) rfl (fun ls hl => ?_)
    refine lv_iload hx hb dL_law_700 (lv_at hl 6 rfl) ?_
    refine lv_if_ne (tgt := 709) hx hb dL_law_702 (by decide) (fun c702 => ?_) (fun c702 => by exfalso; have c702 := (nI_eq (a := o.nv) (b := 0) (by omega) (by omega)).mp (show nI o.nv = nI 0 from c702); omega)
    have c702 : ¬ o.nv = 0 := fun h => c702 ((nI_eq (a := o.nv) (b := 0) (by omega) (by omega)).mpr h)
    refine lv_aload_n hx hb dL_law_709 rfl (lv_at hl 12 rfl) ?_
    refine lv_iload hx hb dL_law_710 (lv_at hl 0 rfl) ?_
    refine lv_iconst (v := 1) hx hb dL_law_712 (by decide) ?_
    refine lv_iload hx hb dL_law_713 (lv_at hl 9 rfl) ?_
    refine lv_iconst (v := 4) hx hb dL_law_715 (by decide) ?_
    refine lv_ishr hx hb dL_law_716 ?_
    refine lv_topi (fun v716 ev716 => ?_)
    refine lv_bipush (v := 30) hx hb dL_law_717 (by decide) ?_
    refine ro_S (As := [.int v716, .int (nI 30)]) (rest := [.int 1, .int (nI k695), .ref lo]) ⟨hx, hb, hml, hown, hts⟩ (m_L_below l g (fun _ => eO 0 []) v716 30 (by omega) (by omega)) (va_cwS 2 hts gL_law_L_below rfl rfl rfl (by decide +kernel) ⟨Nat.le_of_ble_eq_true rfl, Nat.le_of_ble_eq_true rfl⟩) hK (PP.of (fun b hb => absurd hb List.not_mem_nil)) rfl hl.1 rfl (Nat.le_of_ble_eq_true rfl) dL_law_719 ⟨by show _ ≤ 1200130; omega, by show _ ≤ 5501080; omega⟩ (fun r719 hr719 => ?_)
    obtain ⟨k719, hk719, rfl⟩ := hr719
    refine lv_iadd hx hb dL_law_722 ?_
    refine lv_topi (fun v722 ev722 => ?_)
    rw [show v722 = nI (1 + k719) from (ev722.trans (nat_add rfl rfl))]
    refine u_advise ⟨hx, hb, hml, hown, hts⟩ hst hK hZ hW hok (by omega) (u := k695) (k := (1 + k719)) (by omega) (by omega) (by omega) (cwV 2 hts gL_law_X4_advise rfl rfl rfl (by decide +kernel) ⟨Nat.le_of_ble_eq_true rfl, Nat.le_of_ble_eq_true rfl⟩) hl.1 (Nat.le_of_ble_eq_true rfl) dL_law_723 ⟨by show _ ≤ 1200130; omega, by show _ ≤ 5501080; omega⟩ (fun r723 H locs hr723 hW => ?_)
    refine lv_istore (lv' := [(19, .int r723), (18, .int (nI k695)), (17, .ref q17), (15, .long (digO o)), (10, .int (countO o 3)), (9, .ref q9), (8, .ref q8), (7, .int (nI o.nv)), (6, .int (nI o.n)), (5, .int (nI o.d)), (4, .int x4), (3, .int x3), (2, .ref b.sm), (1, .ref lo), (0, .ref bs)]) hx hb dL_law_726 hl (by decide) rfl (fun ls hl => ?_)
    refine lv_iload hx hb dL_law_728 (lv_at hl 7 rfl) ?_
    refine lv_iconst (v := 2) hx hb dL_law_730 (by decide) ?_
    refine lv_icmp_ge (tgt := 738) hx hb dL_law_731 (by decide) (fun c731 => ?_) (fun c731 => by exfalso; exact c731 ((nI_leI (a := 2) (b := o.nv) (by omega) (by omega)).mpr (by omega)))
    have c731 : 2 ≤ o.nv := (nI_leI (a := 2) (b := o.nv) (by omega) (by omega)).mp (show nI 2 ≤ nI o.nv from c731)
    refine lv_aload_n hx hb dL_law_738 rfl (lv_at hl 13 rfl) ?_
    refine lv_aload_n hx hb dL_law_739 rfl (lv_at hl 13 rfl) ?_
    refine lv_iconst (v := 2) hx hb dL_law_740 (by decide) ?_
    refine u_at ⟨hx, hb, hml, hown, hts⟩ hst hK hZ hW hok (by omega) (pl := nI 2) (at_ex hok (by omega) (k := 2) (by omega) (by omega)) (cwV 1 hts gL_law_X4_at rfl rfl rfl (by decide +kernel) ⟨Nat.le_of_ble_eq_true rfl, Nat.le_of_ble_eq_true rfl⟩) hl.1 (Nat.le_of_ble_eq_true rfl) dL_law_741 ⟨by show _ ≤ 1200130; omega, by show _ ≤ 5501080; omega⟩ (fun r741 H locs hr741 hW => ?_)
    obtain ⟨w, hv_w, rfl, hp_w⟩ := at_pl hok (by omega) (k := 2) (by omega) (by omega) hr741
    refine lv_aload_n hx hb dL_law_744 rfl (lv_at hl 13 rfl) ?_
    refine lv_iconst (v := 1) hx hb dL_law_745 (by decide) ?_
    refine u_at ⟨hx, hb, hml, hown, hts⟩ hst hK hZ hW hok (by omega) (pl := nI 1) (at_ex hok (by omega) (k := 1) (by omega) (by omega)) (cwV 1 hts gL_law_X4_at rfl rfl rfl (by decide +kernel) ⟨Nat.le_of_ble_eq_true rfl, Nat.le_of_ble_eq_true rfl⟩) hl.1 (Nat.le_of_ble_eq_true rfl) dL_law_746 ⟨by show _ ≤ 1200130; omega, by show _ ≤ 5501080; omega⟩ (fun r746 H locs hr746 hW => ?_)
    obtain ⟨u, hv_u, rfl, hp_u⟩ := at_pl hok (by omega) (k := 1) (by omega) (by omega) hr746
    refine u_overtakes ⟨hx, hb, hml, hown, hts⟩ hst hK hZ hW hok (by omega) (u := w) (w := u) (by omega) (by omega) (fun z => by have e1 := congrArg (plO o) z; omega) (cwV 2 hts gL_law_X4_overtakes rfl rfl rfl (by decide +kernel) ⟨Nat.le_of_ble_eq_true rfl, Nat.le_of_ble_eq_true rfl⟩) hl.1 (Nat.le_of_ble_eq_true rfl) dL_law_749 ⟨by show _ ≤ 1200130; omega, by show _ ≤ 5501080; omega⟩ (fun r749 H locs hr749 hW => ?_)
    refine lv_istore (lv' := [(20, .int r749), (19, .int r723), (18, .int (nI k695)), (17, .ref q17), (15, .long (digO o)), (10, .int (countO o 3)), (9, .ref q9), (8, .ref q8), (7, .int (nI o.nv)), (6, .int (nI o.n)), (5, .int (nI o.d)), (4, .int x4), (3, .int x3), (2, .ref b.sm), (1, .ref lo), (0, .ref bs)]) hx hb dL_law_752 hl (by decide) rfl (fun ls hl => ?_)
    refine lv_iload hx hb dL_law_754 (lv_at hl 8 rfl) ?_
    refine lv_iconst (v := 1) hx hb dL_law_756 (by decide) ?_
    refine lv_icmp_le (tgt := 777) hx hb dL_law_757 (by decide) (fun c757 => by exfalso; have c757 := (nI_leI (a := o.nv) (b := 1) (by omega) (by omega)).mp (show nI o.nv ≤ nI 1 from c757); omega) (fun c757 => ?_)
    have c757 : ¬ o.nv ≤ 1 := fun h => c757 ((nI_leI (a := o.nv) (b := 1) (by omega) (by omega)).mpr h)
    refine lv_aload_n hx hb dL_law_760 rfl (lv_at hl 14 rfl) ?_
    refine lv_aload_n hx hb dL_law_761 rfl (lv_at hl 14 rfl) ?_
    refine lv_iconst (v := 1) hx hb dL_law_762 (by decide) ?_
    refine u_at ⟨hx, hb, hml, hown, hts⟩ hst hK hZ hW hok (by omega) (pl := nI 1) (at_ex hok (by omega) (k := 1) (by omega) (by omega)) (cwV 1 hts gL_law_X4_at rfl rfl rfl (by decide +kernel) ⟨Nat.le_of_ble_eq_true rfl, Nat.le_of_ble_eq_true rfl⟩) hl.1 (Nat.le_of_ble_eq_true rfl) dL_law_763 ⟨by show _ ≤ 1200130; omega, by show _ ≤ 5501080; omega⟩ (fun r763 H locs hr763 hW => ?_)
    obtain ⟨u2, hv_u2, rfl, hp_u2⟩ := at_pl hok (by omega) (k := 1) (by omega) (by omega) hr763
    rw [plO_inj hok (by omega) hv_u2 hv_u (hp_u2.trans hp_u.symm)]
    refine lv_aload_n hx hb dL_law_766 rfl (lv_at hl 14 rfl) ?_
    refine lv_iconst (v := 2) hx hb dL_law_767 (by decide) ?_
    refine u_at ⟨hx, hb, hml, hown, hts⟩ hst hK hZ hW hok (by omega) (pl := nI 2) (at_ex hok (by omega) (k := 2) (by omega) (by omega)) (cwV 1 hts gL_law_X4_at rfl rfl rfl (by decide +kernel) ⟨Nat.le_of_ble_eq_true rfl, Nat.le_of_ble_eq_true rfl⟩) hl.1 (Nat.le_of_ble_eq_true rfl) dL_law_768 ⟨by show _ ≤ 1200130; omega, by show _ ≤ 5501080; omega⟩ (fun r768 H locs hr768 hW => ?_)
    obtain ⟨w2, hv_w2, rfl, hp_w2⟩ := at_pl hok (by omega) (k := 2) (by omega) (by omega) hr768
    rw [plO_inj hok (by omega) hv_w2 hv_w (hp_w2.trans hp_w.symm)]
    refine u_overtakes ⟨hx, hb, hml, hown, hts⟩ hst hK hZ hW hok (by omega) (u := u) (w := w) (by omega) (by omega) (fun z => by have e1 := congrArg (plO o) z; omega) (cwV 2 hts gL_law_X4_overtakes rfl rfl rfl (by decide +kernel) ⟨Nat.le_of_ble_eq_true rfl, Nat.le_of_ble_eq_true rfl⟩) hl.1 (Nat.le_of_ble_eq_true rfl) dL_law_771 ⟨by show _ ≤ 1200130; omega, by show _ ≤ 5501080; omega⟩ (fun r771 H locs hr771 hW => ?_)
    rw [ov_0 hr771 (pl_ah hok (by omega) hv_u hv_w (by omega))]
    refine lv_if_ne (tgt := 805) hx hb dL_law_774 (by decide) (fun h => absurd h (by decide)) (fun _ => ?_)
    refine lv_aload_n hx hb dL_law_777 rfl (lv_at hl 14 rfl) ?_
    refine u_digest ⟨hx, hb, hml, hown, hts⟩ hst hK hZ hW hok (by omega) (cwV 0 hts gL_law_X4_digest rfl rfl rfl (by decide +kernel) ⟨Nat.le_of_ble_eq_true rfl, Nat.le_of_ble_eq_true rfl⟩) hl.1 (Nat.le_of_ble_eq_true rfl) dL_law_778 ⟨by show _ ≤ 1200130; omega, by show _ ≤ 5501080; omega⟩ (fun H locs hW => ?_)
    refine lv_lload hx hb dL_law_781 (lv_at hl 4 rfl) ?_
    refine W.lcmp hx hb dL_law_783 ?_
    rw [cmp_0 rfl]
    refine lv_if_ne (tgt := 805) hx hb dL_law_784 (by decide) (fun h => absurd h (by decide)) (fun _ => ?_)
    rcases hr723 with rfl | ⟨i19, hi19, rfl⟩
    · skip
      refine lv_iload hx hb dL_law_787 (lv_at hl 1 rfl) ?_
      refine lv_iconst (v := (-1)) hx hb dL_law_789 (by decide) ?_
      refine lv_icmp_lt (tgt := 805) hx hb dL_law_790 (by decide) (fun h => absurd h (by decide)) (fun _ => ?_)
      refine lv_iload hx hb dL_law_793 (lv_at hl 1 rfl) ?_
      refine lv_iload hx hb dL_law_795 (lv_at hl 9 rfl) ?_
      refine lv_icmp_ge (tgt := 805) hx hb dL_law_797 (by decide) (fun h => absurd h (m1_lt (by omega))) (fun _ => ?_)
      refine lv_iload hx hb dL_law_800 (lv_at hl 0 rfl) ?_
      have hov : OvK o r749 := Or.inr ⟨h9, u, w, hv_u, hv_w, hp_u, hp_w, hr749⟩
      rcases hov.n hok (by omega) with e20 | ⟨i20, hi20, e20⟩
      · rw [e20]
        refine lv_if_ne (tgt := 807) hx hb dL_law_802 (by decide) (fun _ => ?_) (fun h => absurd h (by decide))
        exact W.widen (by omega) (by omega) (kk _ H locs ls hov (hW) (lv_sub hl [0, 3, 5, 6, 7, 8, 9, 10, 11, 12, 13, 14, 15] rfl))
      · rw [e20]
        refine lv_if_ne (tgt := 807) hx hb dL_law_802 (by decide) (fun c802 => ?_) (fun c802 => by exfalso; have c802 := (nI_eq (a := i20 + 1) (b := 0) (by omega) (by omega)).mp (show nI (i20 + 1) = nI 0 from c802); omega)
        have c802 : ¬ i20 + 1 = 0 := fun h => c802 ((nI_eq (a := i20 + 1) (b := 0) (by omega) (by omega)).mpr h)
        exact W.widen (by omega) (by omega) (kk _ H locs ls hov (hW) (lv_sub hl [0, 3, 5, 6, 7, 8, 9, 10, 11, 12, 13, 14, 15] rfl))
    · skip
      refine lv_iload hx hb dL_law_787 (lv_at hl 1 rfl) ?_
      refine lv_iconst (v := (-1)) hx hb dL_law_789 (by decide) ?_
      refine lv_icmp_lt (tgt := 805) hx hb dL_law_790 (by decide) (fun h => absurd h (ne_m1 (by omega))) (fun _ => ?_)
      refine lv_iload hx hb dL_law_793 (lv_at hl 1 rfl) ?_
      refine lv_iload hx hb dL_law_795 (lv_at hl 9 rfl) ?_
      refine lv_icmp_ge (tgt := 805) hx hb dL_law_797 (by decide) (fun c797 => by exfalso; have c797 := (nI_leI (a := o.n) (b := i19) (by omega) (by omega)).mp (show nI o.n ≤ nI i19 from c797); omega) (fun c797 => ?_)
      have c797 : ¬ o.n ≤ i19 := fun h => c797 ((nI_leI (a := o.n) (b := i19) (by omega) (by omega)).mpr h)
      refine lv_iload hx hb dL_law_800 (lv_at hl 0 rfl) ?_
      have hov : OvK o r749 := Or.inr ⟨h9, u, w, hv_u, hv_w, hp_u, hp_w, hr749⟩
      rcases hov.n hok (by omega) with e20 | ⟨i20, hi20, e20⟩
      · rw [e20]
        refine lv_if_ne (tgt := 807) hx hb dL_law_802 (by decide) (fun _ => ?_) (fun h => absurd h (by decide))
        exact W.widen (by omega) (by omega) (kk _ H locs ls hov (hW) (lv_sub hl [0, 3, 5, 6, 7, 8, 9, 10, 11, 12, 13, 14, 15] rfl))
      · rw [e20]
        refine lv_if_ne (tgt := 807) hx hb dL_law_802 (by decide) (fun c802 => ?_) (fun c802 => by exfalso; have c802 := (nI_eq (a := i20 + 1) (b := 0) (by omega) (by omega)).mp (show nI (i20 + 1) = nI 0 from c802); omega)
        have c802 : ¬ i20 + 1 = 0 := fun h => c802 ((nI_eq (a := i20 + 1) (b := 0) (by omega) (by omega)).mpr h)
        exact W.widen (by omega) (by omega) (kk _ H locs ls hov (hW) (lv_sub hl [0, 3, 5, 6, 7, 8, 9, 10, 11, 12, 13, 14, 15] rfl))
