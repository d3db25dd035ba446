/-! ===== the law, piece I ===== -/
set_option maxHeartbeats 8000000 in
set_option maxRecDepth 100000 in
theorem lw_I {p : Program} {l : Launch} {e : Env} {s : State} {m : MethodId} {args : Array Value} {below : List Frame} {meth : Method} {c : Code} {Q : State → Prop} {g : GG} {t lo : Nat} {L0 : List Nat} {b : SmA} {o : OB} {M cells slots : Nat} {H : Heap} {locs : List Loc} {ls : Array Slot} {Lw : List Nat} {fw : Nat → va_E} {q8 q9 bs : Nat} {fa fb : Nat → Nat} {x3 x4 : Int32} {q17 : Nat} {z : Nat → Int32} (C : LK p l s m args c cL_law 32 wsL_law RL g t L0) (hok : OkO M (dayO o)) (hM : M + 300 < 2 ^ 28) (hW : WD g t lo b (dayO o) (dayO o) Lw fw (AA L0 s.heap.size) s.heap H locs) (hl : lv_has ls 32 [(17, .ref q17), (9, .ref q9), (8, .ref q8), (7, .int (nI o.nv)), (6, .int (nI o.n)), (5, .int (nI o.d)), (4, .int x4), (3, .int x3), (2, .ref b.sm), (1, .ref lo), (0, .ref bs)]) (hq17 : q17 ∈ Lw) (hfz : fw q17 = eI g 6 z) (hz : ∀ i, 3 ≤ i → i < 6 → z i = covO (itO o 1) i) (hc : cells + 10 ≤ 1200130) (hs : slots + 60 ≤ 5501080) (kk : ∀ (H : Heap) (locs : List Loc) (ls : Array Slot), WD g t lo b (dayO o) (dayO o) Lw fw (AA L0 s.heap.size) s.heap H locs → lv_has ls 32 [(9, .ref q9), (8, .ref q8), (7, .int (nI o.nv)), (6, .int (nI o.n)), (5, .int (nI o.d)), (4, .int x4), (3, .int x3), (2, .ref b.sm), (1, .ref lo), (0, .ref bs)] → W p l e room_1 s m args below meth c H locs (cells + 10) (slots + 60) Q (F0 m 936 ls [])) : W p l e room_1 s m args below meth c H locs cells slots Q (F0 m 904 ls []) := by
  obtain ⟨hx, hb, hml, hts, hown, hK, hZ, hDS, hst⟩ := C
  have hi_X5 : ∀ w ∈ u_ws RX5 TX5 6, w ∈ wsL_law := by decide +kernel
  have hn := hok.hn
  have hnv := hok.hnv
  have hd := hok.hd
  have hn2 : (dayO o).n = o.n := rfl
  have hnv2 : (dayO o).nv = o.nv := rfl
  have hd2 : (dayO o).d = o.d + 1 := rfl
  refine lv_iconst (v := 3) hx hb dL_law_904 (by decide) ?_
  refine lv_istore (lv' := [(24, .int 3), (17, .ref q17), (9, .ref q9), (8, .ref q8), (7, .int (nI o.nv)), (6, .int (nI o.n)), (5, .int (nI o.d)), (4, .int x4), (3, .int x3), (2, .ref b.sm), (1, .ref lo), (0, .ref bs)]) hx hb dL_law_905 hl (by decide) rfl (fun ls hl => ?_)
  have K907 : ∀ (n907 : Nat) (k : Nat) (H : Heap) (locs : List Loc), 6 - k < n907 → 3 ≤ k → k ≤ 6 → WD g t lo b (dayO o) (dayO o) Lw fw (AA L0 s.heap.size) s.heap H locs → ∀ (ls : Array Slot), lv_has ls 32 [(24, .int (nI k)), (17, .ref q17), (9, .ref q9), (8, .ref q8), (7, .int (nI o.nv)), (6, .int (nI o.n)), (5, .int (nI o.d)), (4, .int x4), (3, .int x3), (2, .ref b.sm), (1, .ref lo), (0, .ref bs)] → W p l e room_1 s m args below meth c H locs (cells + k) (slots + 6 * k) Q (F0 m 907 ls []) := by
    intro n907
    induction n907 with
    | zero => intros; omega
    | succ n907 ih907 =>
      intro k H locs hm907 h3k hk hW ls hl
      refine lv_iload hx hb dL_law_907 (lv_at hl 0 rfl) ?_
      refine lv_bipush (v := 6) hx hb dL_law_909 (by decide) ?_
      refine lv_icmp_ge (tgt := 936) hx hb dL_law_911 (by decide) (fun c911 => ?_) (fun c911 => ?_)
      · skip
        have c911 : 6 ≤ k := (nI_leI (a := 6) (b := k) (by omega) (by omega)).mp (show nI 6 ≤ nI k from c911)
        exact W.widen (by omega) (by omega) (kk H locs ls (hW) (lv_sub hl [2, 3, 4, 5, 6, 7, 8, 9, 10, 11] rfl))
      · skip
        have c911 : ¬ 6 ≤ k := fun h => c911 ((nI_leI (a := 6) (b := k) (by omega) (by omega)).mpr h)
        refine lv_aload_n hx hb dL_law_914 rfl (lv_at hl 10 rfl) ?_
        refine lv_iload hx hb dL_law_915 (lv_at hl 0 rfl) ?_
        refine u_count ⟨hx, hb, hml, hown, hts⟩ hst hK hZ hW hok (by omega) (k := k) (by omega) (cwV 1 hts gL_law_X4_count rfl rfl rfl (by decide +kernel) ⟨Nat.le_of_ble_eq_true rfl, Nat.le_of_ble_eq_true rfl⟩) hl.1 (Nat.le_of_ble_eq_true rfl) dL_law_917 ⟨by show _ ≤ 1200130; omega, by show _ ≤ 5501080; omega⟩ (fun H locs hW => ?_)
        refine lv_aload hx hb dL_law_920 (lv_at hl 1 rfl) ?_
        refine lv_iload hx hb dL_law_922 (lv_at hl 0 rfl) ?_
        refine pn_iald (j := k) hx hb hK hW.G.Pw hq17 hfz rfl (by omega) (by omega) dL_law_924 ?_
        rw [(hz k (by omega) (by omega)).trans (cov_c o (by omega) (by omega)).symm]
        refine lv_icmp_eq (tgt := 930) hx hb dL_law_925 (by decide) (fun _ => ?_) (fun h => absurd rfl h)
        refine lv_iinc (v := nI (k + 1)) (lv' := [(24, .int (nI (k + 1))), (17, .ref q17), (9, .ref q9), (8, .ref q8), (7, .int (nI o.nv)), (6, .int (nI o.n)), (5, .int (nI o.d)), (4, .int x4), (3, .int x3), (2, .ref b.sm), (1, .ref lo), (0, .ref bs)]) hx hb dL_law_930 hl (k := 0) rfl (nI_1 _) (by decide) rfl (fun ls hl => ?_)
        refine lv_goto (tgt := 907) hx hb dL_law_933 (by decide) ?_
        refine W.widen (by omega) (by omega) (ih907 (k + 1) H locs (by omega) (by omega) (by omega) (hW) ls (lv_sub hl [0, 1, 2, 3, 4, 5, 6, 7, 8, 9, 10, 11] rfl))
  refine W.widen (by omega) (by omega) (K907 _ 3 H locs (Nat.lt_succ_self _) (by omega) (by omega) (hW) ls (lv_sub hl [0, 1, 2, 3, 4, 5, 6, 7, 8, 9, 10, 11] rfl))
