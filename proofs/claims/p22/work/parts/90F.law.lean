/-! ===== the law, piece F ===== -/
set_option maxHeartbeats 8000000 in
set_option maxRecDepth 100000 in
theorem lw_F {p : Program} {l : Launch} {e : Env} {s : State} {m : MethodId} {args : Array Value} {below : List Frame} {meth : Method} {c : Code} {Q : State → Prop} {g : GG} {t lo : Nat} {L0 : List Nat} {b : SmA} {o : OB} {M cells slots : Nat} {H : Heap} {locs : List Loc} {ls : Array Slot} {Lw : List Nat} {fw : Nat → va_E} {q8 q9 bs : Nat} {fa fb : Nat → Nat} {x3 x4 : Int32} (C : LK p l s m args c cL_law 32 wsL_law RL g t L0) (hok : OkO M o) (hM : M + 300 < 2 ^ 28) (hW : WD g t lo b o o Lw fw (AA L0 s.heap.size) s.heap H locs) (hl : lv_has ls 32 [(10, .int (countO o 3)), (9, .ref q9), (8, .ref q8), (7, .int (nI o.nv)), (6, .int (nI o.n)), (5, .int (nI o.d)), (4, .int x4), (3, .int x3), (2, .ref b.sm), (1, .ref lo), (0, .ref bs)]) (T8 : TB g Lw fw q8 7 o.nv fa KA (aboutO o)) (T9 : TB g Lw fw q9 o.n o.nv fb KA (wtsO o)) (hD : ∀ u v, u < o.nv → v < o.nv → fa u ≠ fb v) (hc : cells + 320 ≤ 1200130) (hs : slots + 1900 ≤ 5501080) (kk : ∀ (q17 : Nat) (z : Nat → Int32) (fw2 : Nat → va_E) (H : Heap) (locs : List Loc) (ls : Array Slot), TB g (q17 :: Lw) fw2 q8 7 o.nv fa KA (aboutO o) → TB g (q17 :: Lw) fw2 q9 o.n o.nv fb KA (wtsO o) → q17 ∈ q17 :: Lw → fw2 q17 = eI g 6 z → (∀ i, 3 ≤ i → i < 6 → z i = covO (itO o 1) i) → WD g t lo b o o (q17 :: Lw) fw2 (AA L0 s.heap.size) s.heap H locs → lv_has ls 32 [(17, .ref q17), (15, .long (digO o)), (10, .int (countO o 3)), (9, .ref q9), (8, .ref q8), (7, .int (nI o.nv)), (6, .int (nI o.n)), (5, .int (nI o.d)), (4, .int x4), (3, .int x3), (2, .ref b.sm), (1, .ref lo), (0, .ref bs)] → W p l e room_1 s m args below meth c H locs (cells + 320) (slots + 1900) Q (F0 m 680 ls [])) : W p l e room_1 s m args below meth c H locs cells slots Q (F0 m 640 ls []) := by
  obtain ⟨hx, hb, hml, hts, hown, hK, hZ, hDS, hst⟩ := C
  have hi_X5 : ∀ w ∈ u_ws RX5 TX5 6, w ∈ wsL_law := by decide +kernel
  have hn := hok.hn
  have hnv := hok.hnv
  have hd := hok.hd
  refine lv_aload_n hx hb dL_law_640 rfl (lv_at hl 9 rfl) ?_
  refine u_digest ⟨hx, hb, hml, hown, hts⟩ hst hK hZ hW hok (by omega) (cwV 0 hts gL_law_X4_digest rfl rfl rfl (by decide +kernel) ⟨Nat.le_of_ble_eq_true rfl, Nat.le_of_ble_eq_true rfl⟩) hl.1 (Nat.le_of_ble_eq_true rfl) dL_law_641 ⟨by show _ ≤ 1200130; omega, by show _ ≤ 5501080; omega⟩ (fun H locs hW => ?_)
  refine lv_lstore (lv' := [(15, .long (digO o)), (10, .int (countO o 3)), (9, .ref q9), (8, .ref q8), (7, .int (nI o.nv)), (6, .int (nI o.n)), (5, .int (nI o.d)), (4, .int x4), (3, .int x3), (2, .ref b.sm), (1, .ref lo), (0, .ref bs)]) hx hb dL_law_644 hl (by decide) rfl (fun ls hl => ?_)
  refine lv_bipush (v := 6) hx hb dL_law_646 (by decide) ?_
  refine w_newI hx hb (hts (.arrayClass .int) (by decide +kernel)) hK (fun _ h => Or.inr h) hW.G (k := 6) rfl (by omega) (by show _ ≤ 1200130; omega) (by show _ ≤ 5501080; omega) dL_law_648 (fun q648 H hq648 hW => ?_)
  obtain ⟨fwq648, efwq648⟩ : ∃ z, z = va_up fw q648 (eI g 6 (fun _ => 0)) := ⟨_, rfl⟩
  rw [← efwq648] at hW
  have hf_q648 : fwq648 q648 = eI g 6 (fun _ => 0) := by rw [efwq648]; exact va_up_self _ _ _
  have hL_q648 : q648 ∈ (q648 :: Lw) := List.mem_cons_self
  replace hW := WDG.O hW
  have hqa : ∀ v, v < o.nv → fa v ≠ q648 := fun v hv z => hq648 (z ▸ (T8.2.2.2 v hv).1)
  have hqb : ∀ v, v < o.nv → fb v ≠ q648 := fun v hv z => hq648 (z ▸ (T9.2.2.2 v hv).1)
  have T8 := T8.grow (L2 := q648 :: Lw) (f2 := fwq648) (fun x hx => ⟨List.mem_cons_of_mem _ hx, by rw [efwq648]; exact va_up_ne _ _ (fun z => hq648 (z ▸ hx))⟩)
  have T9 := T9.grow (L2 := q648 :: Lw) (f2 := fwq648) (fun x hx => ⟨List.mem_cons_of_mem _ hx, by rw [efwq648]; exact va_up_ne _ _ (fun z => hq648 (z ▸ hx))⟩)
  refine lv_astore (lv' := [(17, .ref q648), (15, .long (digO o)), (10, .int (countO o 3)), (9, .ref q9), (8, .ref q8), (7, .int (nI o.nv)), (6, .int (nI o.n)), (5, .int (nI o.d)), (4, .int x4), (3, .int x3), (2, .ref b.sm), (1, .ref lo), (0, .ref bs)]) hx hb dL_law_650 hl (by decide) rfl (fun ls hl => ?_)
  refine lv_iconst (v := 3) hx hb dL_law_652 (by decide) ?_
  refine lv_istore (lv' := [(18, .int 3), (17, .ref q648), (15, .long (digO o)), (10, .int (countO o 3)), (9, .ref q9), (8, .ref q8), (7, .int (nI o.nv)), (6, .int (nI o.n)), (5, .int (nI o.d)), (4, .int x4), (3, .int x3), (2, .ref b.sm), (1, .ref lo), (0, .ref bs)]) hx hb dL_law_653 hl (by decide) rfl (fun ls hl => ?_)
  have K655 : ∀ (n655 : Nat) (k : Nat) (zf : Nat → Int32) (fw655 : Nat → va_E) (H : Heap) (locs : List Loc), 6 - k < n655 → 3 ≤ k → k ≤ 6 → fw655 q648 = eI g 6 zf → (∀ i, 3 ≤ i → i < k → zf i = covO (itO o 1) i) → TB g (q648 :: Lw) fw655 q8 7 o.nv fa KA (aboutO o) → TB g (q648 :: Lw) fw655 q9 o.n o.nv fb KA (wtsO o) → WD g t lo b o o (q648 :: Lw) fw655 (AA L0 s.heap.size) s.heap H locs → ∀ (ls : Array Slot), lv_has ls 32 [(18, .int (nI k)), (17, .ref q648), (15, .long (digO o)), (10, .int (countO o 3)), (9, .ref q9), (8, .ref q8), (7, .int (nI o.nv)), (6, .int (nI o.n)), (5, .int (nI o.d)), (4, .int x4), (3, .int x3), (2, .ref b.sm), (1, .ref lo), (0, .ref bs)] → W p l e room_1 s m args below meth c H locs (cells + 261 + 8 * k) (slots + 1566 + 48 * k) Q (F0 m 655 ls []) := by
    intro n655
    induction n655 with
    | zero => intros; omega
    | succ n655 ih655 =>
      intro k zf fw655 H locs hm655 h3k hk hfz hz T8 T9 hW ls hl
      refine lv_iload hx hb dL_law_655 (lv_at hl 0 rfl) ?_
      refine lv_bipush (v := 6) hx hb dL_law_657 (by decide) ?_
      refine lv_icmp_ge (tgt := 680) hx hb dL_law_659 (by decide) (fun c659 => ?_) (fun c659 => ?_)
      · skip
        have c659 : 6 ≤ k := (nI_leI (a := 6) (b := k) (by omega) (by omega)).mp (show nI 6 ≤ nI k from c659)
        rw [show k = 6 by omega] at hz
        exact W.widen (by omega) (by omega) (kk q648 zf fw655 H locs ls T8 T9 List.mem_cons_self hfz hz (hW) (lv_sub hl [1, 2, 3, 4, 5, 6, 7, 8, 9, 10, 11, 12, 13] rfl))
      · skip
        have c659 : ¬ 6 ≤ k := fun h => c659 ((nI_leI (a := 6) (b := k) (by omega) (by omega)).mpr h)
        refine lv_aload hx hb dL_law_662 (lv_at hl 1 rfl) ?_
        refine lv_iload hx hb dL_law_664 (lv_at hl 0 rfl) ?_
        refine lv_aload_n hx hb dL_law_666 rfl (lv_at hl 12 rfl) ?_
        refine lv_iconst (v := 1) hx hb dL_law_667 (by decide) ?_
        refine lv_iload hx hb dL_law_668 (lv_at hl 0 rfl) ?_
        refine u_foresee ⟨hx, hb, hml, hown, hts⟩ hst hK hZ hW hok (by omega) (k := 1) (w := k) (by omega) (by omega) (by omega) (by omega) (cwV 2 hts gL_law_X4_foresee rfl rfl rfl (by decide +kernel) ⟨Nat.le_of_ble_eq_true rfl, Nat.le_of_ble_eq_true rfl⟩) hl.1 (Nat.le_of_ble_eq_true rfl) dL_law_670 ⟨by show _ ≤ 1200130; omega, by show _ ≤ 5501080; omega⟩ (fun H locs hW => ?_)
        refine w_iast hx hb hK hW.G hL_q648 hfz (j := k) rfl (by omega) (by omega) dL_law_673 (fun H locs hW => ?_)
        obtain ⟨fw673, efw673⟩ : ∃ z, z = va_up fw655 q648 (eI g 6 (upd zf k (covO (itO o 1) k))) := ⟨_, rfl⟩
        rw [← efw673] at hW
        have hf_q648 : fw673 q648 = eI g 6 (upd zf k (covO (itO o 1) k)) := by rw [efw673]; exact va_up_self _ _ _
        replace hW := WDG.O hW
        replace T8 := T8.keep (a := q648) (f2 := fw673) (fun x hx => by rw [efw673]; exact va_up_ne _ _ hx) ⟨6, zf, hfz⟩ (fun v hv => hqa v hv)
        replace T9 := T9.keep (a := q648) (f2 := fw673) (fun x hx => by rw [efw673]; exact va_up_ne _ _ hx) ⟨6, zf, hfz⟩ (fun v hv => hqb v hv)
        refine lv_iinc (v := nI (k + 1)) (lv' := [(18, .int (nI (k + 1))), (17, .ref q648), (15, .long (digO o)), (10, .int (countO o 3)), (9, .ref q9), (8, .ref q8), (7, .int (nI o.nv)), (6, .int (nI o.n)), (5, .int (nI o.d)), (4, .int x4), (3, .int x3), (2, .ref b.sm), (1, .ref lo), (0, .ref bs)]) hx hb dL_law_674 hl (k := 0) rfl (nI_1 _) (by decide) rfl (fun ls hl => ?_)
        refine lv_goto (tgt := 655) hx hb dL_law_677 (by decide) ?_
        refine W.widen (by omega) (by omega) (ih655 (k + 1) (upd zf k (covO (itO o 1) k)) fw673 H locs (by omega) (by omega) (by omega) (hf_q648) (fun i h1 h2 => by by_cases e9 : i = k; rw [e9, pk_us]; rw [pk_un e9]; exact hz i h1 (by omega)) (T8) (T9) (hW) ls (lv_sub hl [0, 1, 2, 3, 4, 5, 6, 7, 8, 9, 10, 11, 12, 13] rfl))
  refine W.widen (by omega) (by omega) (K655 _ 3 (fun _ => 0) fwq648 H locs (Nat.lt_succ_self _) (by omega) (by omega) (hf_q648) (fun i h1 h2 => absurd h2 (by omega)) (T8) (T9) (hW) ls (lv_sub hl [0, 1, 2, 3, 4, 5, 6, 7, 8, 9, 10, 11, 12, 13] rfl))
