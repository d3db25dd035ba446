/-! ===== the law, piece H ===== -/
set_option maxHeartbeats 8000000 in
set_option maxRecDepth 100000 in
theorem lw_H {p : Program} {l : Launch} {e : Env} {s : State} {m : MethodId} {args : Array Value} {below : List Frame} {meth : Method} {c : Code} {Q : State → Prop} {g : GG} {t lo : Nat} {L0 : List Nat} {b : SmA} {o : OB} {M cells slots : Nat} {H : Heap} {locs : List Loc} {ls : Array Slot} {Lw : List Nat} {fw : Nat → va_E} {q8 q9 bs : Nat} {fa fb : Nat → Nat} {x3 x4 : Int32} {q17 : Nat} {ov : Int32} (C : LK p l s m args c cL_law 32 wsL_law RL g t L0) (hok : OkO M o) (hM : M + 300 < 2 ^ 28) (hW : WD g t lo b o o Lw fw (AA L0 s.heap.size) s.heap H locs) (hl : lv_has ls 32 [(20, .int ov), (17, .ref q17), (10, .int (countO o 3)), (9, .ref q9), (8, .ref q8), (7, .int (nI o.nv)), (6, .int (nI o.n)), (5, .int (nI o.d)), (4, .int x4), (3, .int x3), (2, .ref b.sm), (1, .ref lo), (0, .ref bs)]) (hov : OvK o ov) (hc : cells + 300 ≤ 1200130) (hs : slots + 1700 ≤ 5501080) (kk : ∀ (H : Heap) (locs : List Loc) (ls : Array Slot), WD g t lo b (dayO o) (dayO o) Lw fw (AA L0 s.heap.size) s.heap H locs → lv_has ls 32 [(17, .ref q17), (9, .ref q9), (8, .ref q8), (7, .int (nI o.nv)), (6, .int (nI o.n)), (5, .int (nI o.d)), (4, .int x4), (3, .int x3), (2, .ref b.sm), (1, .ref lo), (0, .ref bs)] → W p l e room_1 s m args below meth c H locs (cells + 300) (slots + 1700) Q (F0 m 904 ls [])) : W p l e room_1 s m args below meth c H locs cells slots Q (F0 m 807 ls []) := by
  obtain ⟨hx, hb, hml, hts, hown, hK, hZ, hDS, hst⟩ := C
  have hi_X5 : ∀ w ∈ u_ws RX5 TX5 6, w ∈ wsL_law := by decide +kernel
  have hn := hok.hn
  have hnv := hok.hnv
  have hd := hok.hd
  have hov0 := hov
  rcases hov with ⟨h9, rfl⟩ | ⟨h9, u, w, hv_u, hv_w, hp_u, hp_w, hr749⟩
  · skip
    refine lv_iload hx hb dL_law_807 (lv_at hl 5 rfl) ?_
    refine lv_iconst (v := 2) hx hb dL_law_809 (by decide) ?_
    refine lv_icmp_ge (tgt := 817) hx hb dL_law_810 (by decide) (fun c810 => by exfalso; have c810 := (nI_leI (a := 2) (b := o.nv) (by omega) (by omega)).mp (show nI 2 ≤ nI o.nv from c810); omega) (fun c810 => ?_)
    have c810 : ¬ 2 ≤ o.nv := fun h => c810 ((nI_leI (a := 2) (b := o.nv) (by omega) (by omega)).mpr h)
    refine lv_iconst (v := (-1)) hx hb dL_law_813 (by decide) ?_
    refine lv_goto (tgt := 822) hx hb dL_law_814 (by decide) ?_
    refine lv_istore (lv' := [(21, .int (-1)), (20, .int (-1)), (17, .ref q17), (10, .int (countO o 3)), (9, .ref q9), (8, .ref q8), (7, .int (nI o.nv)), (6, .int (nI o.n)), (5, .int (nI o.d)), (4, .int x4), (3, .int x3), (2, .ref b.sm), (1, .ref lo), (0, .ref bs)]) hx hb dL_law_822 hl (by decide) rfl (fun ls hl => ?_)
    refine lv_iload hx hb dL_law_824 (lv_at hl 6 rfl) ?_
    refine lv_iconst (v := 2) hx hb dL_law_826 (by decide) ?_
    refine lv_icmp_ge (tgt := 834) hx hb dL_law_827 (by decide) (fun c827 => by exfalso; have c827 := (nI_leI (a := 2) (b := o.nv) (by omega) (by omega)).mp (show nI 2 ≤ nI o.nv from c827); omega) (fun c827 => ?_)
    have c827 : ¬ 2 ≤ o.nv := fun h => c827 ((nI_leI (a := 2) (b := o.nv) (by omega) (by omega)).mpr h)
    refine lv_iconst (v := (-1)) hx hb dL_law_830 (by decide) ?_
    refine lv_goto (tgt := 839) hx hb dL_law_831 (by decide) ?_
    refine lv_istore (lv' := [(22, .int (-1)), (21, .int (-1)), (20, .int (-1)), (17, .ref q17), (10, .int (countO o 3)), (9, .ref q9), (8, .ref q8), (7, .int (nI o.nv)), (6, .int (nI o.n)), (5, .int (nI o.d)), (4, .int x4), (3, .int x3), (2, .ref b.sm), (1, .ref lo), (0, .ref bs)]) hx hb dL_law_839 hl (by decide) rfl (fun ls hl => ?_)
    refine lv_aload_n hx hb dL_law_841 rfl (lv_at hl 13 rfl) ?_
    refine lv_iconst (v := 1) hx hb dL_law_842 (by decide) ?_
    refine u_pass ⟨hx, hb, hml, hown, hts⟩ hst hK hZ hW hok (by omega) (k := 1) (by omega) (by omega) (cwV 1 hts gL_law_X4_pass rfl rfl rfl (by decide +kernel) ⟨Nat.le_of_ble_eq_true rfl, Nat.le_of_ble_eq_true rfl⟩) hl.1 (Nat.le_of_ble_eq_true rfl) dL_law_843 ⟨by show _ ≤ 1200130; omega, by show _ ≤ 5501080; omega⟩ (fun H locs hW => ?_)
    rw [hitK_1]
    refine lv_istore (lv' := [(23, .int (hitsO o)), (22, .int (-1)), (21, .int (-1)), (20, .int (-1)), (17, .ref q17), (10, .int (countO o 3)), (9, .ref q9), (8, .ref q8), (7, .int (nI o.nv)), (6, .int (nI o.n)), (5, .int (nI o.d)), (4, .int x4), (3, .int x3), (2, .ref b.sm), (1, .ref lo), (0, .ref bs)]) hx hb dL_law_846 hl (by decide) rfl (fun ls hl => ?_)
    refine lv_aload_n hx hb dL_law_848 rfl (lv_at hl 13 rfl) ?_
    refine u_simpass ⟨hx, hb, hml, hown, hts⟩ hK hW hok (by omega) (cwV 0 hts gL_law_X5_pass rfl rfl rfl (by decide +kernel) ⟨Nat.le_of_ble_eq_true rfl, Nat.le_of_ble_eq_true rfl⟩) hl.1 (Nat.le_of_ble_eq_true rfl) dL_law_849 ⟨by show _ ≤ 1200130; omega, by show _ ≤ 5501080; omega⟩ (fun H locs hW => ?_)
    replace hW : WD g t lo b (dayO o) (dayO o) Lw fw (AA L0 s.heap.size) s.heap H locs := hW
    have hok2 := hok.day (by omega)
    have hn2 : (dayO o).n = o.n := rfl
    have hnv2 : (dayO o).nv = o.nv := rfl
    refine lv_iload hx hb dL_law_852 (lv_at hl 0 rfl) ?_
    refine lv_icmp_ne (tgt := 902) hx hb dL_law_854 (by decide) (fun h => absurd rfl h) (fun _ => ?_)
    refine lv_aload_n hx hb dL_law_857 rfl (lv_at hl 14 rfl) ?_
    refine lv_iconst (v := 0) hx hb dL_law_858 (by decide) ?_
    refine u_count ⟨hx, hb, hml, hown, hts⟩ hst hK hZ hW hok2 (by omega) (k := 0) (by omega) (cwV 1 hts gL_law_X4_count rfl rfl rfl (by decide +kernel) ⟨Nat.le_of_ble_eq_true rfl, Nat.le_of_ble_eq_true rfl⟩) hl.1 (Nat.le_of_ble_eq_true rfl) dL_law_859 ⟨by show _ ≤ 1200130; omega, by show _ ≤ 5501080; omega⟩ (fun H locs hW => ?_)
    refine lv_iload hx hb dL_law_862 (lv_at hl 10 rfl) ?_
    refine lv_iconst (v := 1) hx hb dL_law_864 (by decide) ?_
    refine lv_iadd hx hb dL_law_865 ?_
    refine lv_topi (fun v865 ev865 => ?_)
    rw [show v865 = countO (dayO o) 0 from (ev865.trans (nat_add rfl rfl))]
    refine lv_icmp_ne (tgt := 902) hx hb dL_law_866 (by decide) (fun h => absurd rfl h) (fun _ => ?_)
    refine lv_aload_n hx hb dL_law_869 rfl (lv_at hl 14 rfl) ?_
    refine lv_iconst (v := 3) hx hb dL_law_870 (by decide) ?_
    refine u_count ⟨hx, hb, hml, hown, hts⟩ hst hK hZ hW hok2 (by omega) (k := 3) (by omega) (cwV 1 hts gL_law_X4_count rfl rfl rfl (by decide +kernel) ⟨Nat.le_of_ble_eq_true rfl, Nat.le_of_ble_eq_true rfl⟩) hl.1 (Nat.le_of_ble_eq_true rfl) dL_law_871 ⟨by show _ ≤ 1200130; omega, by show _ ≤ 5501080; omega⟩ (fun H locs hW => ?_)
    refine lv_iload hx hb dL_law_874 (lv_at hl 5 rfl) ?_
    refine lv_iload hx hb dL_law_876 (lv_at hl 0 rfl) ?_
    refine lv_iadd hx hb dL_law_878 ?_
    refine lv_topi (fun v878 ev878 => ?_)
    rw [show v878 = countO (dayO o) 3 from ev878.trans (day_pts o).symm]
    refine lv_icmp_ne (tgt := 902) hx hb dL_law_879 (by decide) (fun h => absurd rfl h) (fun _ => ?_)
    refine lv_iload hx hb dL_law_882 (lv_at hl 3 rfl) ?_
    refine lv_if_le (tgt := 904) hx hb dL_law_884 (by decide) (fun _ => ?_) (fun h => absurd (by decide) h)
    exact W.widen (by omega) (by omega) (kk H locs ls (hW) (lv_sub hl [4, 6, 7, 8, 9, 10, 11, 12, 13, 14, 15] rfl))
  · skip
    refine lv_iload hx hb dL_law_807 (lv_at hl 5 rfl) ?_
    refine lv_iconst (v := 2) hx hb dL_law_809 (by decide) ?_
    refine lv_icmp_ge (tgt := 817) hx hb dL_law_810 (by decide) (fun c810 => ?_) (fun c810 => by exfalso; exact c810 ((nI_leI (a := 2) (b := o.nv) (by omega) (by omega)).mpr (by omega)))
    have c810 : 2 ≤ o.nv := (nI_leI (a := 2) (b := o.nv) (by omega) (by omega)).mp (show nI 2 ≤ nI o.nv from c810)
    refine lv_aload_n hx hb dL_law_817 rfl (lv_at hl 11 rfl) ?_
    refine lv_iconst (v := 1) hx hb dL_law_818 (by decide) ?_
    refine u_at ⟨hx, hb, hml, hown, hts⟩ hst hK hZ hW hok (by omega) (pl := nI 1) (at_ex hok (by omega) (k := 1) (by omega) (by omega)) (cwV 1 hts gL_law_X4_at rfl rfl rfl (by decide +kernel) ⟨Nat.le_of_ble_eq_true rfl, Nat.le_of_ble_eq_true rfl⟩) hl.1 (Nat.le_of_ble_eq_true rfl) dL_law_819 ⟨by show _ ≤ 1200130; omega, by show _ ≤ 5501080; omega⟩ (fun r819 H locs hr819 hW => ?_)
    obtain ⟨u2, hv_u2, rfl, hp_u2⟩ := at_pl hok (by omega) (k := 1) (by omega) (by omega) hr819
    rw [plO_inj hok (by omega) hv_u2 hv_u (hp_u2.trans hp_u.symm)]
    refine lv_istore (lv' := [(21, .int (nI u)), (20, .int ov), (17, .ref q17), (10, .int (countO o 3)), (9, .ref q9), (8, .ref q8), (7, .int (nI o.nv)), (6, .int (nI o.n)), (5, .int (nI o.d)), (4, .int x4), (3, .int x3), (2, .ref b.sm), (1, .ref lo), (0, .ref bs)]) hx hb dL_law_822 hl (by decide) rfl (fun ls hl => ?_)
    refine lv_iload hx hb dL_law_824 (lv_at hl 6 rfl) ?_
    refine lv_iconst (v := 2) hx hb dL_law_826 (by decide) ?_
    refine lv_icmp_ge (tgt := 834) hx hb dL_law_827 (by decide) (fun c827 => ?_) (fun c827 => by exfalso; exact c827 ((nI_leI (a := 2) (b := o.nv) (by omega) (by omega)).mpr (by omega)))
    have c827 : 2 ≤ o.nv := (nI_leI (a := 2) (b := o.nv) (by omega) (by omega)).mp (show nI 2 ≤ nI o.nv from c827)
    refine lv_aload_n hx hb dL_law_834 rfl (lv_at hl 12 rfl) ?_
    refine lv_iconst (v := 2) hx hb dL_law_835 (by decide) ?_
    refine u_at ⟨hx, hb, hml, hown, hts⟩ hst hK hZ hW hok (by omega) (pl := nI 2) (at_ex hok (by omega) (k := 2) (by omega) (by omega)) (cwV 1 hts gL_law_X4_at rfl rfl rfl (by decide +kernel) ⟨Nat.le_of_ble_eq_true rfl, Nat.le_of_ble_eq_true rfl⟩) hl.1 (Nat.le_of_ble_eq_true rfl) dL_law_836 ⟨by show _ ≤ 1200130; omega, by show _ ≤ 5501080; omega⟩ (fun r836 H locs hr836 hW => ?_)
    obtain ⟨w2, hv_w2, rfl, hp_w2⟩ := at_pl hok (by omega) (k := 2) (by omega) (by omega) hr836
    rw [plO_inj hok (by omega) hv_w2 hv_w (hp_w2.trans hp_w.symm)]
    refine lv_istore (lv' := [(22, .int (nI w)), (21, .int (nI u)), (20, .int ov), (17, .ref q17), (10, .int (countO o 3)), (9, .ref q9), (8, .ref q8), (7, .int (nI o.nv)), (6, .int (nI o.n)), (5, .int (nI o.d)), (4, .int x4), (3, .int x3), (2, .ref b.sm), (1, .ref lo), (0, .ref bs)]) hx hb dL_law_839 hl (by decide) rfl (fun ls hl => ?_)
    refine lv_aload_n hx hb dL_law_841 rfl (lv_at hl 13 rfl) ?_
    refine lv_iconst (v := 1) hx hb dL_law_842 (by decide) ?_
    refine u_pass ⟨hx, hb, hml, hown, hts⟩ hst hK hZ hW hok (by omega) (k := 1) (by omega) (by omega) (cwV 1 hts gL_law_X4_pass rfl rfl rfl (by decide +kernel) ⟨Nat.le_of_ble_eq_true rfl, Nat.le_of_ble_eq_true rfl⟩) hl.1 (Nat.le_of_ble_eq_true rfl) dL_law_843 ⟨by show _ ≤ 1200130; omega, by show _ ≤ 5501080; omega⟩ (fun H locs hW => ?_)
    rw [hitK_1]
    refine lv_istore (lv' := [(23, .int (hitsO o)), (22, .int (nI w)), (21, .int (nI u)), (20, .int ov), (17, .ref q17), (10, .int (countO o 3)), (9, .ref q9), (8, .ref q8), (7, .int (nI o.nv)), (6, .int (nI o.n)), (5, .int (nI o.d)), (4, .int x4), (3, .int x3), (2, .ref b.sm), (1, .ref lo), (0, .ref bs)]) hx hb dL_law_846 hl (by decide) rfl (fun ls hl => ?_)
    refine lv_aload_n hx hb dL_law_848 rfl (lv_at hl 13 rfl) ?_
    refine u_simpass ⟨hx, hb, hml, hown, hts⟩ hK hW hok (by omega) (cwV 0 hts gL_law_X5_pass rfl rfl rfl (by decide +kernel) ⟨Nat.le_of_ble_eq_true rfl, Nat.le_of_ble_eq_true rfl⟩) hl.1 (Nat.le_of_ble_eq_true rfl) dL_law_849 ⟨by show _ ≤ 1200130; omega, by show _ ≤ 5501080; omega⟩ (fun H locs hW => ?_)
    replace hW : WD g t lo b (dayO o) (dayO o) Lw fw (AA L0 s.heap.size) s.heap H locs := hW
    have hok2 := hok.day (by omega)
    have hn2 : (dayO o).n = o.n := rfl
    have hnv2 : (dayO o).nv = o.nv := rfl
    refine lv_iload hx hb dL_law_852 (lv_at hl 0 rfl) ?_
    refine lv_icmp_ne (tgt := 902) hx hb dL_law_854 (by decide) (fun h => absurd rfl h) (fun _ => ?_)
    refine lv_aload_n hx hb dL_law_857 rfl (lv_at hl 14 rfl) ?_
    refine lv_iconst (v := 0) hx hb dL_law_858 (by decide) ?_
    refine u_count ⟨hx, hb, hml, hown, hts⟩ hst hK hZ hW hok2 (by omega) (k := 0) (by omega) (cwV 1 hts gL_law_X4_count rfl rfl rfl (by decide +kernel) ⟨Nat.le_of_ble_eq_true rfl, Nat.le_of_ble_eq_true rfl⟩) hl.1 (Nat.le_of_ble_eq_true rfl) dL_law_859 ⟨by show _ ≤ 1200130; omega, by show _ ≤ 5501080; omega⟩ (fun H locs hW => ?_)
    refine lv_iload hx hb dL_law_862 (lv_at hl 10 rfl) ?_
    refine lv_iconst (v := 1) hx hb dL_law_864 (by decide) ?_
    refine lv_iadd hx hb dL_law_865 ?_
    refine lv_topi (fun v865 ev865 => ?_)
    rw [show v865 = countO (dayO o) 0 from (ev865.trans (nat_add rfl rfl))]
    refine lv_icmp_ne (tgt := 902) hx hb dL_law_866 (by decide) (fun h => absurd rfl h) (fun _ => ?_)
    refine lv_aload_n hx hb dL_law_869 rfl (lv_at hl 14 rfl) ?_
    refine lv_iconst (v := 3) hx hb dL_law_870 (by decide) ?_
    refine u_count ⟨hx, hb, hml, hown, hts⟩ hst hK hZ hW hok2 (by omega) (k := 3) (by omega) (cwV 1 hts gL_law_X4_count rfl rfl rfl (by decide +kernel) ⟨Nat.le_of_ble_eq_true rfl, Nat.le_of_ble_eq_true rfl⟩) hl.1 (Nat.le_of_ble_eq_true rfl) dL_law_871 ⟨by show _ ≤ 1200130; omega, by show _ ≤ 5501080; omega⟩ (fun H locs hW => ?_)
    refine lv_iload hx hb dL_law_874 (lv_at hl 5 rfl) ?_
    refine lv_iload hx hb dL_law_876 (lv_at hl 0 rfl) ?_
    refine lv_iadd hx hb dL_law_878 ?_
    refine lv_topi (fun v878 ev878 => ?_)
    rw [show v878 = countO (dayO o) 3 from ev878.trans (day_pts o).symm]
    refine lv_icmp_ne (tgt := 902) hx hb dL_law_879 (by decide) (fun h => absurd rfl h) (fun _ => ?_)
    refine lv_iload hx hb dL_law_882 (lv_at hl 3 rfl) ?_
    rcases hov0.n hok (by omega) with e20 | ⟨i20, hi20, e20⟩
    · subst e20
      refine lv_if_le (tgt := 904) hx hb dL_law_884 (by decide) (fun _ => ?_) (fun h => absurd (by decide) h)
      exact W.widen (by omega) (by omega) (kk H locs ls (hW) (lv_sub hl [4, 6, 7, 8, 9, 10, 11, 12, 13, 14, 15] rfl))
    · subst e20
      refine lv_if_le (tgt := 904) hx hb dL_law_884 (by decide) (fun c884 => by exfalso; have c884 := (nI_leI (a := i20 + 1) (b := 0) (by omega) (by omega)).mp (show nI (i20 + 1) ≤ nI 0 from c884); omega) (fun c884 => ?_)
      have c884 : ¬ i20 + 1 ≤ 0 := fun h => c884 ((nI_leI (a := i20 + 1) (b := 0) (by omega) (by omega)).mpr h)
      refine lv_aload_n hx hb dL_law_887 rfl (lv_at hl 14 rfl) ?_
      refine lv_iload hx hb dL_law_888 (lv_at hl 1 rfl) ?_
      refine lv_iload hx hb dL_law_890 (lv_at hl 2 rfl) ?_
      refine u_overtakes ⟨hx, hb, hml, hown, hts⟩ hst hK hZ hW hok2 (by omega) (u := w) (w := u) (by omega) (by omega) (fun z => by have e1 := congrArg (plO o) z; omega) (cwV 2 hts gL_law_X4_overtakes rfl rfl rfl (by decide +kernel) ⟨Nat.le_of_ble_eq_true rfl, Nat.le_of_ble_eq_true rfl⟩) hl.1 (Nat.le_of_ble_eq_true rfl) dL_law_892 ⟨by show _ ≤ 1200130; omega, by show _ ≤ 5501080; omega⟩ (fun r892 H locs hr892 hW => ?_)
      rw [ov_day hv_w hv_u hi20 hr749 hr892]
      refine lv_iload hx hb dL_law_895 (lv_at hl 3 rfl) ?_
      refine lv_iconst (v := 1) hx hb dL_law_897 (by decide) ?_
      refine lv_isub hx hb dL_law_898 ?_
      refine lv_topi (fun v898 ev898 => ?_)
      rw [show v898 = nI i20 from ev898.trans (pk_sub (a := i20 + 1) (b := 1) (by omega))]
      refine lv_icmp_eq (tgt := 904) hx hb dL_law_899 (by decide) (fun _ => ?_) (fun h => absurd rfl h)
      exact W.widen (by omega) (by omega) (kk H locs ls (hW) (lv_sub hl [4, 6, 7, 8, 9, 10, 11, 12, 13, 14, 15] rfl))
