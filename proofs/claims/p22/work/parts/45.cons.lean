set_option maxHeartbeats 4000000 in
set_option maxRecDepth 100000 in
theorem m_J7_fill_53178 (l : Launch) (g : GG) (L : List Nat) (f : Nat → va_E) (sz : Nat) (hN : L.Nodup) (qa k : Nat) (h : Nat → Int32) (x : Int32) (hL_qa : qa ∈ L) (hf_qa : f qa = eI g k h) (hk : k < 100) : RV l g yJ7_fill_53178 wsJ7_fill_53178 0 0 L f sz [.ref qa, .int x] (fun f2 => f2 qa = eI g k (mapN (fun _ _ => x) h k) ∧ Fr f f2 [qa]) := by
  refine RV.start (cc := cJ7_fill_53178) (maxL := 4) (by decide +kernel) rfl (by simp [lg_sl, Value.category]) ?_
  intro p e s m args below meth c Q ls A hx hb hml hts hown hA hA2 hS hP hK hl hend
  have hl : lv_has ls 4 [(0, .ref qa), (1, .int x)] := hl
  have hFr : Fr f f [qa] := Fr.rf
  have h0f_qa := hf_qa
  refine lv_iconst (v := 0) hx hb dJ7_fill_53178_0 (by decide) ?_
  refine lv_istore_n (lv' := [(2, .int 0), (0, .ref qa), (1, .int x)]) hx hb dJ7_fill_53178_1 rfl hl (by decide) rfl (fun ls hl => ?_)
  refine lv_aload_n hx hb dJ7_fill_53178_2 rfl (lv_at hl 1 rfl) ?_
  refine pg_alen hx hb hK hP hL_qa hf_qa 0 rfl (v := nI k) rfl dJ7_fill_53178_3 ?_
  refine lv_istore_n (lv' := [(3, .int (nI k)), (2, .int 0), (0, .ref qa), (1, .int x)]) hx hb dJ7_fill_53178_4 rfl hl (by decide) rfl (fun ls hl => ?_)
  have hf_qa : f qa = eI g k (mapN (fun _ _ => x) h 0) := by rw [hf_qa, mapN_0]
  have K5 : ∀ (n5 : Nat) (i : Nat) (f5 : Nat → va_E) (H : Heap) (locs : List Loc), k + 1 - i < n5 → i ≤ k → f5 qa = eI g k (mapN (fun _ _ => x) h i) → Fr f f5 [qa] → PP g L f5 H → va_S A s.heap H locs → ∀ (ls : Array Slot), lv_has ls 4 [(3, .int (nI k)), (2, .int (nI i)), (1, .int x), (0, .ref qa)] → W p l e ({ frames := 0, cells := 0, slots := 0, locals := 0 } : Room) s m args below meth c H locs 0 0 Q (F0 m 5 ls []) := by
    intro n5
    induction n5 with
    | zero => intros; omega
    | succ n5 ih5 =>
      intro i f5 H locs hm5 hi hq5_0 hFr hP hS ls hl
      have hf_qa : f5 qa = eI g k (mapN (fun _ _ => x) h i) := hq5_0
      refine lv_iload_n hx hb dJ7_fill_53178_5 rfl (lv_at hl 1 rfl) ?_
      refine lv_iload_n hx hb dJ7_fill_53178_6 rfl (lv_at hl 0 rfl) ?_
      refine lv_icmp_ge (tgt := 20) hx hb dJ7_fill_53178_7 (by decide) (fun c7 => ?_) (fun c7 => ?_)
      · skip
        have c7 : k ≤ i := (nI_leI (a := k) (b := i) (by omega) (by omega)).mp (show nI k ≤ nI i from c7)
        exact hend f5 _ _ _ _ (⟨by rw [hf_qa, show i = k from (by omega)], hFr⟩) hP hS dJ7_fill_53178_20
      · skip
        have c7 : ¬ k ≤ i := fun h => c7 ((nI_leI (a := k) (b := i) (by omega) (by omega)).mpr h)
        refine lv_aload_n hx hb dJ7_fill_53178_10 rfl (lv_at hl 3 rfl) ?_
        refine lv_iload_n hx hb dJ7_fill_53178_11 rfl (lv_at hl 1 rfl) ?_
        refine lv_iload_n hx hb dJ7_fill_53178_12 rfl (lv_at hl 2 rfl) ?_
        refine pn_iast (j := i) hx hb hK hP hN hA hS hL_qa hf_qa rfl (by omega) (Nat.lt_of_lt_of_le (m := 100) (by omega) (by omega)) dJ7_fill_53178_13 (fun H locs hP hS => ?_)
        obtain ⟨f13, ef13⟩ : ∃ z, z = va_up f5 qa (eI g k (upd (mapN (fun _ _ => x) h i) i x)) := ⟨_, rfl⟩
        replace hP : PP g L f13 H := by rw [ef13]; exact hP
        have hf_qa : f13 qa = eI g k (upd (mapN (fun _ _ => x) h i) i x) := by rw [ef13]; exact va_up_self _ _ _
        replace hFr : Fr f f13 [qa] := by rw [ef13]; exact hFr.up (by simp)
        refine lv_iinc (v := nI (i + 1)) (lv' := [(2, .int (nI (i + 1))), (3, .int (nI k)), (1, .int x), (0, .ref qa)]) hx hb dJ7_fill_53178_14 hl (k := 1) rfl (nI_1 _) (by decide) rfl (fun ls hl => ?_)
        refine lv_goto (tgt := 5) hx hb dJ7_fill_53178_17 (by decide) ?_
        have hf_qa : f13 qa = eI g k (mapN (fun _ _ => x) h (i + 1)) := by rw [hf_qa, mapN_s (F := fun _ _ => x) rfl]
        exact ih5 (i + 1) f13 H locs (by omega) (by omega) hf_qa hFr hP hS ls (lv_sub hl [1, 0, 2, 3] rfl)
  exact K5 _ 0 f _ _ (Nat.lt_succ_self _) (Nat.zero_le _) hf_qa hFr hP hS ls (lv_sub hl [0, 1, 3, 2] rfl)

set_option maxHeartbeats 4000000 in
set_option maxRecDepth 100000 in
theorem m_X0_init (l : Launch) (g : GG) (L : List Nat) (f : Nat → va_E) (sz : Nat) (hN : L.Nodup) (t : Nat) (si : Nat) (x y : Int32) (hL_si : si ∈ L) (hf_si : f si = eO 1 [.int 0, .int 0]) : AV l g yX0_init wsX0_init 1 13 1 60 t L f sz [.ref si, .int x, .int y] (fun L2 f2 => f2 si = eO 1 [.int x, .int y] ∧ L2 = L ∧ FrN L f f2 [si]) := by
  refine AV.start (cc := cX0_init) (maxL := 3) (by decide +kernel) rfl (by simp [lg_sl, Value.category]) ?_
  intro p e s m args below meth c Q ls hx hb hml hts hown hnm hS hP hK hDS hl hend
  have hA : ∀ a ∈ L, AA L s.heap.size a := fun _ h => Or.inl h
  have hA2 : ∀ q, s.heap.size ≤ q → AA L s.heap.size q := fun _ h => Or.inr h
  have hSub : ∀ a ∈ L, a ∈ L := fun _ h => h
  have hl : lv_has ls 3 [(0, .ref si), (1, .int x), (2, .int y)] := hl
  have hi_X0 : ∀ w ∈ u_ws RX0 TX0 2, w ∈ wsX0_init := by decide +kernel
  have hFr : FrN L f f [si] := FrN.rf
  have h0f_si := hf_si
  refine lv_aload_n hx hb dX0_init_0 rfl (lv_at hl 0 rfl) ?_
  refine W.objInit hx hb hown (hts (.methodLink RX0 3 objectInit) (by decide +kernel)) (hts (.instanceMethod objectInit) (by decide +kernel)) (hts _ (List.mem_of_getElem? (i := 3) rfl)) rfl (by rw [hml]; exact hl.1) rfl dX0_init_1 (Nat.le_of_ble_eq_true rfl) (Nat.le_of_ble_eq_true rfl) ?_
  refine W.eq (g2 := F0 m 4 ls []) rfl ?_
  refine lv_aload_n hx hb dX0_init_4 rfl (lv_at hl 0 rfl) ?_
  refine lv_iload_n hx hb dX0_init_5 rfl (lv_at hl 1 rfl) ?_
  refine pg_putF (ty := .int) (C := RX0) (T := TX0) (N := 2) hx hb hts hi_X0 tyX0 tyX0_ok nmX0 hown hK hP hN hA hS hL_si hf_si rfl 0 (by decide) (hts (.fieldLink RX0 9 "BarometerLeague$Sign" "kind" "I") (by decide +kernel)) (fun _ h9 => h9) rfl hnm rfl (by decide +kernel) rfl rfl (Nat.le_of_ble_eq_true rfl) dX0_init_6 (fun H locs hP hS => ?_)
  obtain ⟨f6, ef6⟩ : ∃ z, z = va_up f si (eO 1 [.int x, .int 0]) := ⟨_, rfl⟩
  replace hP : PP g L f6 H := by rw [ef6]; exact hP
  have hf_si : f6 si = eO 1 [.int x, .int 0] := by rw [ef6]; exact va_up_self _ _ _
  replace hFr : FrN L f f6 [si] := by rw [ef6]; exact hFr.up (Or.inl (by simp))
  refine lv_aload_n hx hb dX0_init_9 rfl (lv_at hl 0 rfl) ?_
  refine lv_iload_n hx hb dX0_init_10 rfl (lv_at hl 2 rfl) ?_
  refine pg_putF (ty := .int) (C := RX0) (T := TX0) (N := 2) hx hb hts hi_X0 tyX0 tyX0_ok nmX0 hown hK hP hN hA hS hL_si hf_si rfl 1 (by decide) (hts (.fieldLink RX0 15 "BarometerLeague$Sign" "number" "I") (by decide +kernel)) (fun _ h9 => h9) rfl hnm rfl (by decide +kernel) rfl rfl (Nat.le_of_ble_eq_true rfl) dX0_init_11 (fun H locs hP hS => ?_)
  obtain ⟨f11, ef11⟩ : ∃ z, z = va_up f6 si (eO 1 [.int x, .int y]) := ⟨_, rfl⟩
  replace hP : PP g L f11 H := by rw [ef11]; exact hP
  have hf_si : f11 si = eO 1 [.int x, .int y] := by rw [ef11]; exact va_up_self _ _ _
  replace hFr : FrN L f f11 [si] := by rw [ef11]; exact hFr.up (Or.inl (by simp))
  exact hend L f11 _ _ _ _ _ _ ⟨hN, hSub, hA⟩ (⟨hf_si, rfl, hFr⟩) hP hS (Nat.le_of_ble_eq_true rfl) (Nat.le_of_ble_eq_true rfl) dX0_init_14

set_option maxHeartbeats 4000000 in
set_option maxRecDepth 100000 in
theorem m_X1_init (l : Launch) (g : GG) (L : List Nat) (f : Nat → va_E) (sz : Nat) (hN : L.Nodup) (t : Nat) (vi : Nat) (x : Int32) (hL_vi : vi ∈ L) (hf_vi : f vi = eO 2 [.null, .int 0, .int 0, .int 0, .int 0]) : AV l g yX1_init wsX1_init 1 23 1 60 t L f sz [.ref vi, .int x] (fun L2 f2 => ∃ q, q ∉ L ∧ q ∈ L2 ∧ f2 vi = eO 2 [.ref q, .int x, .int 0, .int 10, .int 0] ∧ f2 q = eI g 8 w20 ∧ FrN L f f2 [vi]) := by
  refine AV.start (cc := cX1_init) (maxL := 2) (by decide +kernel) rfl (by simp [lg_sl, Value.category]) ?_
  intro p e s m args below meth c Q ls hx hb hml hts hown hnm hS hP hK hDS hl hend
  have hA : ∀ a ∈ L, AA L s.heap.size a := fun _ h => Or.inl h
  have hA2 : ∀ q, s.heap.size ≤ q → AA L s.heap.size q := fun _ h => Or.inr h
  have hSub : ∀ a ∈ L, a ∈ L := fun _ h => h
  have hl : lv_has ls 2 [(0, .ref vi), (1, .int x)] := hl
  have hi_X1 : ∀ w ∈ u_ws RX1 TX1 5, w ∈ wsX1_init := by decide +kernel
  have hFr : FrN L f f [vi] := FrN.rf
  have h0f_vi := hf_vi
  refine lv_aload_n hx hb dX1_init_0 rfl (lv_at hl 0 rfl) ?_
  refine W.objInit hx hb hown (hts (.methodLink RX1 3 objectInit) (by decide +kernel)) (hts (.instanceMethod objectInit) (by decide +kernel)) (hts _ (List.mem_of_getElem? (i := 3) rfl)) rfl (by rw [hml]; exact hl.1) rfl dX1_init_1 (Nat.le_of_ble_eq_true rfl) (Nat.le_of_ble_eq_true rfl) ?_
  refine W.eq (g2 := F0 m 4 ls []) rfl ?_
  refine lv_aload_n hx hb dX1_init_4 rfl (lv_at hl 0 rfl) ?_
  refine lv_bipush (v := 8) hx hb dX1_init_5 (by decide) ?_
  refine pg_newaI hx hb (hts (.arrayClass .int) (by decide +kernel)) hK hP hN hA hA2 hS (k := 8) rfl (by omega) (by show 0 + 1 ≤ 1; omega) (by show 60 * (0) + 8 ≤ 60; omega) dX1_init_7 (fun q7 H hn0_q7 hA_q7 hP hS => ?_)
  obtain ⟨L7, eL7⟩ : ∃ z, z = q7 :: L := ⟨_, rfl⟩
  obtain ⟨f7, ef7⟩ : ∃ z, z = va_up f q7 (eI g 8 (fun _ => 0)) := ⟨_, rfl⟩
  rw [← eL7, ← ef7] at hP
  have hn_q7 : q7 ∉ L := fun h => hn0_q7 (hSub _ h)
  have n_vi_q7 : vi ≠ q7 := fun z => hn0_q7 (z ▸ hL_vi)
  have hf_vi : f7 vi = eO 2 [.null, .int 0, .int 0, .int 0, .int 0] := by rw [ef7, va_up_ne _ _ n_vi_q7]; exact hf_vi
  have hL_vi : vi ∈ L7 := by rw [eL7]; exact List.mem_cons_of_mem _ hL_vi
  have hf_q7 : f7 q7 = eI g 8 (fun _ => 0) := by rw [ef7]; exact va_up_self _ _ _
  have hL_q7 : q7 ∈ L7 := by rw [eL7]; exact List.mem_cons_self
  have hN : L7.Nodup := by rw [eL7]; exact List.nodup_cons.mpr ⟨hn0_q7, hN⟩
  have hA : ∀ a ∈ L7, AA L s.heap.size a := by rw [eL7]; exact fa_c hA_q7 hA
  have hSub : ∀ a ∈ L, a ∈ L7 := by rw [eL7]; exact fun a h => List.mem_cons_of_mem _ (hSub a h)
  replace hFr : FrN L f f7 [vi] := by rw [ef7]; exact hFr.up (Or.inr hn_q7)
  refine W.widen (k := 1) (n := 60 * (1)) (by omega) (by omega) ?_
  refine pg_putF (ty := (.array .int)) (C := RX1) (T := TX1) (N := 5) hx hb hts hi_X1 tyX1 tyX1_ok nmX1 hown hK hP hN hA hS hL_vi hf_vi rfl 0 (by decide) (hts (.fieldLink RX1 9 "BarometerLeague$Village" "weights" "[I") (by decide +kernel)) (fun _ h9 => h9) rfl hnm rfl (by decide +kernel) rfl rfl (Nat.le_of_ble_eq_true rfl) dX1_init_9 (fun H locs hP hS => ?_)
  obtain ⟨f9, ef9⟩ : ∃ z, z = va_up f7 vi (eO 2 [.ref q7, .int 0, .int 0, .int 0, .int 0]) := ⟨_, rfl⟩
  replace hP : PP g L7 f9 H := by rw [ef9]; exact hP
  have hf_q7 : f9 q7 = eI g 8 (fun _ => 0) := by rw [ef9, va_up_ne _ _ n_vi_q7.symm]; exact hf_q7
  have hf_vi : f9 vi = eO 2 [.ref q7, .int 0, .int 0, .int 0, .int 0] := by rw [ef9]; exact va_up_self _ _ _
  replace hFr : FrN L f f9 [vi] := by rw [ef9]; exact hFr.up (Or.inl (by simp))
  refine lv_aload_n hx hb dX1_init_12 rfl (lv_at hl 0 rfl) ?_
  refine lv_iload_n hx hb dX1_init_13 rfl (lv_at hl 1 rfl) ?_
  refine pg_put (ty := .int) (C := RX1) (T := TX1) (N := 5) hx hb hts hi_X1 tyX1 tyX1_ok nmX1 hown hK hP hN hA hS hL_vi hf_vi rfl 1 (by decide) (hts (.fieldLink RX1 15 "BarometerLeague$Village" "number" "I") (by decide +kernel)) (fun _ h9 => h9) rfl (by decide +kernel) rfl rfl (Nat.le_of_ble_eq_true rfl) dX1_init_14 (fun H locs hP hS => ?_)
  obtain ⟨f14, ef14⟩ : ∃ z, z = va_up f9 vi (eO 2 [.ref q7, .int x, .int 0, .int 0, .int 0]) := ⟨_, rfl⟩
  replace hP : PP g L7 f14 H := by rw [ef14]; exact hP
  have hf_q7 : f14 q7 = eI g 8 (fun _ => 0) := by rw [ef14, va_up_ne _ _ n_vi_q7.symm]; exact hf_q7
  have hf_vi : f14 vi = eO 2 [.ref q7, .int x, .int 0, .int 0, .int 0] := by rw [ef14]; exact va_up_self _ _ _
  replace hFr : FrN L f f14 [vi] := by rw [ef14]; exact hFr.up (Or.inl (by simp))
  refine lv_aload_n hx hb dX1_init_17 rfl (lv_at hl 0 rfl) ?_
  refine lv_bipush (v := 10) hx hb dX1_init_18 (by decide) ?_
  refine pg_put (ty := .int) (C := RX1) (T := TX1) (N := 5) hx hb hts hi_X1 tyX1 tyX1_ok nmX1 hown hK hP hN hA hS hL_vi hf_vi rfl 3 (by decide) (hts (.fieldLink RX1 19 "BarometerLeague$Village" "coins" "I") (by decide +kernel)) (fun _ h9 => h9) rfl (by decide +kernel) rfl rfl (Nat.le_of_ble_eq_true rfl) dX1_init_20 (fun H locs hP hS => ?_)
  obtain ⟨f20, ef20⟩ : ∃ z, z = va_up f14 vi (eO 2 [.ref q7, .int x, .int 0, .int 10, .int 0]) := ⟨_, rfl⟩
  replace hP : PP g L7 f20 H := by rw [ef20]; exact hP
  have hf_q7 : f20 q7 = eI g 8 (fun _ => 0) := by rw [ef20, va_up_ne _ _ n_vi_q7.symm]; exact hf_q7
  have hf_vi : f20 vi = eO 2 [.ref q7, .int x, .int 0, .int 10, .int 0] := by rw [ef20]; exact va_up_self _ _ _
  replace hFr : FrN L f f20 [vi] := by rw [ef20]; exact hFr.up (Or.inl (by simp))
  refine lv_aload_n hx hb dX1_init_23 rfl (lv_at hl 0 rfl) ?_
  refine pg_get (C := RX1) (T := TX1) (N := 5) hx hb hts hi_X1 hown hK hP hL_vi hf_vi rfl 0 (by decide) (hts (.fieldLink RX1 9 "BarometerLeague$Village" "weights" "[I") (by decide +kernel)) (fun _ h9 => h9) rfl dX1_init_24 ?_
  refine lv_bipush (v := 20) hx hb dX1_init_27 (by decide) ?_
  refine rv_S (As := [.ref q7, .int 20]) (rest := []) ⟨hx, hb, hml, hown, hts⟩ (m_J7_fill_53178 l g L7 f20 _ hN _ _ _ _ hL_q7 hf_q7 (by omega)) (va_cwS 2 hts gX1_init_J7_fill_53178 rfl rfl rfl (by decide +kernel) ⟨Nat.le_of_ble_eq_true rfl, Nat.le_of_ble_eq_true rfl⟩) hK hP hA hA2 hS rfl hl.1 rfl (Nat.le_of_ble_eq_true rfl) dX1_init_29 ⟨(Nat.le_of_ble_eq_true rfl), (Nat.le_of_ble_eq_true rfl)⟩ (fun f29 H locs hr29 hP hS => ?_)
  obtain ⟨hc29_0, hw29⟩ := hr29
  have hf_vi : f29 vi = eO 2 [.ref q7, .int x, .int 0, .int 10, .int 0] := hw29.get hf_vi (nm_c n_vi_q7 (List.not_mem_nil))
  have hf_q7 : f29 q7 = eI g 8 (mapN (fun _ _ => 20) (fun _ => 0) 8) := hc29_0
  replace hFr : FrN L f f29 [vi] := hFr.tr hw29 (fa_c (Or.inr hn_q7) fa_n)
  exact hend L7 f29 _ _ _ _ _ _ ⟨hN, hSub, hA⟩ (⟨q7, hn_q7, hL_q7, hf_vi, hf_q7, hFr⟩) hP hS (Nat.le_of_ble_eq_true rfl) (Nat.le_of_ble_eq_true rfl) dX1_init_32

set_option maxHeartbeats 4000000 in
set_option maxRecDepth 100000 in
theorem m_X3_init (l : Launch) (g : GG) (L : List Nat) (f : Nat → va_E) (sz : Nat) (hN : L.Nodup) (t : Nat) (wi : Nat) (hL_wi : wi ∈ L) (hf_wi : f wi = eO 4 [.null, .null]) : AV l g yX3_init wsX3_init 1 23 2 120 t L f sz [.ref wi] (fun L2 f2 => ∃ q1 q2, q1 ∉ L ∧ q2 ∉ L ∧ q1 ∈ L2 ∧ q2 ∈ L2 ∧ q1 ≠ q2 ∧ f2 wi = eO 4 [.ref q1, .ref q2] ∧ f2 q1 = eI g 12 (mapN (fun _ _ => 30) (fun _ => 0) 12) ∧ f2 q2 = eZ g 12 (fun _ => 0) ∧ FrN L f f2 [wi]) := by
  refine AV.start (cc := cX3_init) (maxL := 1) (by decide +kernel) rfl (by simp [lg_sl, Value.category]) ?_
  intro p e s m args below meth c Q ls hx hb hml hts hown hnm hS hP hK hDS hl hend
  have hA : ∀ a ∈ L, AA L s.heap.size a := fun _ h => Or.inl h
  have hA2 : ∀ q, s.heap.size ≤ q → AA L s.heap.size q := fun _ h => Or.inr h
  have hSub : ∀ a ∈ L, a ∈ L := fun _ h => h
  have hl : lv_has ls 1 [(0, .ref wi)] := hl
  have hi_X3 : ∀ w ∈ u_ws RX3 TX3 2, w ∈ wsX3_init := by decide +kernel
  have hFr : FrN L f f [wi] := FrN.rf
  have h0f_wi := hf_wi
  refine lv_aload_n hx hb dX3_init_0 rfl (lv_at hl 0 rfl) ?_
  refine W.objInit hx hb hown (hts (.methodLink RX3 3 objectInit) (by decide +kernel)) (hts (.instanceMethod objectInit) (by decide +kernel)) (hts _ (List.mem_of_getElem? (i := 3) rfl)) rfl (by rw [hml]; exact hl.1) rfl dX3_init_1 (Nat.le_of_ble_eq_true rfl) (Nat.le_of_ble_eq_true rfl) ?_
  refine W.eq (g2 := F0 m 4 ls []) rfl ?_
  refine lv_aload_n hx hb dX3_init_4 rfl (lv_at hl 0 rfl) ?_
  refine lv_bipush (v := 12) hx hb dX3_init_5 (by decide) ?_
  refine pg_newaI hx hb (hts (.arrayClass .int) (by decide +kernel)) hK hP hN hA hA2 hS (k := 12) rfl (by omega) (by show 0 + 1 ≤ 2; omega) (by show 60 * (0) + 12 ≤ 120; omega) dX3_init_7 (fun q7 H hn0_q7 hA_q7 hP hS => ?_)
  obtain ⟨L7, eL7⟩ : ∃ z, z = q7 :: L := ⟨_, rfl⟩
  obtain ⟨f7, ef7⟩ : ∃ z, z = va_up f q7 (eI g 12 (fun _ => 0)) := ⟨_, rfl⟩
  rw [← eL7, ← ef7] at hP
  have hn_q7 : q7 ∉ L := fun h => hn0_q7 (hSub _ h)
  have n_wi_q7 : wi ≠ q7 := fun z => hn0_q7 (z ▸ hL_wi)
  have hf_wi : f7 wi = eO 4 [.null, .null] := by rw [ef7, va_up_ne _ _ n_wi_q7]; exact hf_wi
  have hL_wi : wi ∈ L7 := by rw [eL7]; exact List.mem_cons_of_mem _ hL_wi
  have hf_q7 : f7 q7 = eI g 12 (fun _ => 0) := by rw [ef7]; exact va_up_self _ _ _
  have hL_q7 : q7 ∈ L7 := by rw [eL7]; exact List.mem_cons_self
  have hN : L7.Nodup := by rw [eL7]; exact List.nodup_cons.mpr ⟨hn0_q7, hN⟩
  have hA : ∀ a ∈ L7, AA L s.heap.size a := by rw [eL7]; exact fa_c hA_q7 hA
  have hSub : ∀ a ∈ L, a ∈ L7 := by rw [eL7]; exact fun a h => List.mem_cons_of_mem _ (hSub a h)
  replace hFr : FrN L f f7 [wi] := by rw [ef7]; exact hFr.up (Or.inr hn_q7)
  refine W.widen (k := 1) (n := 60 * (1)) (by omega) (by omega) ?_
  refine pg_putF (ty := (.array .int)) (C := RX3) (T := TX3) (N := 2) hx hb hts hi_X3 tyX3 tyX3_ok nmX3 hown hK hP hN hA hS hL_wi hf_wi rfl 0 (by decide) (hts (.fieldLink RX3 9 "BarometerLeague$Weather" "glass" "[I") (by decide +kernel)) (fun _ h9 => h9) rfl hnm rfl (by decide +kernel) rfl rfl (Nat.le_of_ble_eq_true rfl) dX3_init_9 (fun H locs hP hS => ?_)
  obtain ⟨f9, ef9⟩ : ∃ z, z = va_up f7 wi (eO 4 [.ref q7, .null]) := ⟨_, rfl⟩
  replace hP : PP g L7 f9 H := by rw [ef9]; exact hP
  have hf_q7 : f9 q7 = eI g 12 (fun _ => 0) := by rw [ef9, va_up_ne _ _ n_wi_q7.symm]; exact hf_q7
  have hf_wi : f9 wi = eO 4 [.ref q7, .null] := by rw [ef9]; exact va_up_self _ _ _
  replace hFr : FrN L f f9 [wi] := by rw [ef9]; exact hFr.up (Or.inl (by simp))
  refine lv_aload_n hx hb dX3_init_12 rfl (lv_at hl 0 rfl) ?_
  refine lv_bipush (v := 12) hx hb dX3_init_13 (by decide) ?_
  refine pg_newaZ hx hb (hts (.arrayClass .boolean) (by decide +kernel)) hK hP hN hA hA2 hS (k := 12) rfl (by omega) (by show 1 + 1 ≤ 2; omega) (by show 60 * (1) + 12 ≤ 120; omega) dX3_init_15 (fun q15 H hn0_q15 hA_q15 hP hS => ?_)
  obtain ⟨L15, eL15⟩ : ∃ z, z = q15 :: L7 := ⟨_, rfl⟩
  obtain ⟨f15, ef15⟩ : ∃ z, z = va_up f9 q15 (eZ g 12 (fun _ => 0)) := ⟨_, rfl⟩
  rw [← eL15, ← ef15] at hP
  have hn_q15 : q15 ∉ L := fun h => hn0_q15 (hSub _ h)
  have n_wi_q15 : wi ≠ q15 := fun z => hn0_q15 (z ▸ hL_wi)
  have hf_wi : f15 wi = eO 4 [.ref q7, .null] := by rw [ef15, va_up_ne _ _ n_wi_q15]; exact hf_wi
  have hL_wi : wi ∈ L15 := by rw [eL15]; exact List.mem_cons_of_mem _ hL_wi
  have n_q7_q15 : q7 ≠ q15 := fun z => hn0_q15 (z ▸ hL_q7)
  have hf_q7 : f15 q7 = eI g 12 (fun _ => 0) := by rw [ef15, va_up_ne _ _ n_q7_q15]; exact hf_q7
  have hL_q7 : q7 ∈ L15 := by rw [eL15]; exact List.mem_cons_of_mem _ hL_q7
  have hf_q15 : f15 q15 = eZ g 12 (fun _ => 0) := by rw [ef15]; exact va_up_self _ _ _
  have hL_q15 : q15 ∈ L15 := by rw [eL15]; exact List.mem_cons_self
  have hN : L15.Nodup := by rw [eL15]; exact List.nodup_cons.mpr ⟨hn0_q15, hN⟩
  have hA : ∀ a ∈ L15, AA L s.heap.size a := by rw [eL15]; exact fa_c hA_q15 hA
  have hSub : ∀ a ∈ L, a ∈ L15 := by rw [eL15]; exact fun a h => List.mem_cons_of_mem _ (hSub a h)
  replace hFr : FrN L f f15 [wi] := by rw [ef15]; exact hFr.up (Or.inr hn_q15)
  refine W.widen (k := 2) (n := 60 * (2)) (by omega) (by omega) ?_
  refine pg_putF (ty := (.array .boolean)) (C := RX3) (T := TX3) (N := 2) hx hb hts hi_X3 tyX3 tyX3_ok nmX3 hown hK hP hN hA hS hL_wi hf_wi rfl 1 (by decide) (hts (.fieldLink RX3 15 "BarometerLeague$Weather" "rain" "[Z") (by decide +kernel)) (fun _ h9 => h9) rfl hnm rfl (by decide +kernel) rfl rfl (Nat.le_of_ble_eq_true rfl) dX3_init_17 (fun H locs hP hS => ?_)
  obtain ⟨f17, ef17⟩ : ∃ z, z = va_up f15 wi (eO 4 [.ref q7, .ref q15]) := ⟨_, rfl⟩
  replace hP : PP g L15 f17 H := by rw [ef17]; exact hP
  have hf_q7 : f17 q7 = eI g 12 (fun _ => 0) := by rw [ef17, va_up_ne _ _ n_wi_q7.symm]; exact hf_q7
  have hf_q15 : f17 q15 = eZ g 12 (fun _ => 0) := by rw [ef17, va_up_ne _ _ n_wi_q15.symm]; exact hf_q15
  have hf_wi : f17 wi = eO 4 [.ref q7, .ref q15] := by rw [ef17]; exact va_up_self _ _ _
  replace hFr : FrN L f f17 [wi] := by rw [ef17]; exact hFr.up (Or.inl (by simp))
  refine lv_aload_n hx hb dX3_init_20 rfl (lv_at hl 0 rfl) ?_
  refine pg_get (C := RX3) (T := TX3) (N := 2) hx hb hts hi_X3 hown hK hP hL_wi hf_wi rfl 0 (by decide) (hts (.fieldLink RX3 9 "BarometerLeague$Weather" "glass" "[I") (by decide +kernel)) (fun _ h9 => h9) rfl dX3_init_21 ?_
  refine lv_bipush (v := 30) hx hb dX3_init_24 (by decide) ?_
  refine rv_S (As := [.ref q7, .int 30]) (rest := []) ⟨hx, hb, hml, hown, hts⟩ (m_J7_fill_53178 l g L15 f17 _ hN _ _ _ _ hL_q7 hf_q7 (by omega)) (va_cwS 2 hts gX3_init_J7_fill_53178 rfl rfl rfl (by decide +kernel) ⟨Nat.le_of_ble_eq_true rfl, Nat.le_of_ble_eq_true rfl⟩) hK hP hA hA2 hS rfl hl.1 rfl (Nat.le_of_ble_eq_true rfl) dX3_init_26 ⟨(Nat.le_of_ble_eq_true rfl), (Nat.le_of_ble_eq_true rfl)⟩ (fun f26 H locs hr26 hP hS => ?_)
  obtain ⟨hc26_0, hw26⟩ := hr26
  have hf_wi : f26 wi = eO 4 [.ref q7, .ref q15] := hw26.get hf_wi (nm_c n_wi_q7 (List.not_mem_nil))
  have hf_q15 : f26 q15 = eZ g 12 (fun _ => 0) := hw26.get hf_q15 (nm_c n_q7_q15.symm (List.not_mem_nil))
  have hf_q7 : f26 q7 = eI g 12 (mapN (fun _ _ => 30) (fun _ => 0) 12) := hc26_0
  replace hFr : FrN L f f26 [wi] := hFr.tr hw26 (fa_c (Or.inr hn_q7) fa_n)
  exact hend L15 f26 _ _ _ _ _ _ ⟨hN, hSub, hA⟩ (⟨q7, q15, hn_q7, hn_q15, hL_q7, hL_q15, n_q7_q15, hf_wi, hf_q7, hf_q15, hFr⟩) hP hS (Nat.le_of_ble_eq_true rfl) (Nat.le_of_ble_eq_true rfl) dX3_init_29

set_option maxHeartbeats 4000000 in
set_option maxRecDepth 100000 in
theorem m_Jxa1e45_init_da8c8 (l : Launch) (g : GG) (L : List Nat) (f : Nat → va_E) (sz : Nat) (hN : L.Nodup) (t : Nat) (al : Nat) (hL_al : al ∈ L) (hf_al : f al = eO 0 [.int 0, .null, .int 0]) : AV l g yJxa1e45_init_da8c8 wsJxa1e45_init_da8c8 1 13 1 60 t L f sz [.ref al] (fun L2 f2 => L2 = L ∧ f2 = f) := by
  refine AV.start (cc := cJxa1e45_init_da8c8) (maxL := 1) (by decide +kernel) rfl (by simp [lg_sl, Value.category]) ?_
  intro p e s m args below meth c Q ls hx hb hml hts hown hnm hS hP hK hDS hl hend
  have hA : ∀ a ∈ L, AA L s.heap.size a := fun _ h => Or.inl h
  have hA2 : ∀ q, s.heap.size ≤ q → AA L s.heap.size q := fun _ h => Or.inr h
  have hSub : ∀ a ∈ L, a ∈ L := fun _ h => h
  have hl : lv_has ls 1 [(0, .ref al)] := hl
  have hFr : FrN L f f [] := FrN.rf
  have h0f_al := hf_al
  refine lv_aload_n hx hb dJxa1e45_init_da8c8_0 rfl (lv_at hl 0 rfl) ?_
  refine W.objInit hx hb hown (hts (.methodLink RJxa1e45 1 objectInit) (by decide +kernel)) (hts (.instanceMethod objectInit) (by decide +kernel)) (hts _ (List.mem_of_getElem? (i := 3) rfl)) rfl (by rw [hml]; exact hl.1) rfl dJxa1e45_init_da8c8_1 (Nat.le_of_ble_eq_true rfl) (Nat.le_of_ble_eq_true rfl) ?_
  refine W.eq (g2 := F0 m 4 ls []) rfl ?_
  exact hend L f _ _ _ _ _ _ ⟨hN, hSub, hA⟩ (⟨rfl, rfl⟩) hP hS (Nat.le_of_ble_eq_true rfl) (Nat.le_of_ble_eq_true rfl) dJxa1e45_init_da8c8_4

set_option maxHeartbeats 4000000 in
set_option maxRecDepth 100000 in
theorem m_Jxc12de_init_da8c8 (l : Launch) (g : GG) (L : List Nat) (f : Nat → va_E) (sz : Nat) (hN : L.Nodup) (t : Nat) (al : Nat) (hL_al : al ∈ L) (hf_al : f al = eO 0 [.int 0, .null, .int 0]) : AV l g yJxc12de_init_da8c8 wsJxc12de_init_da8c8 2 33 1 60 t L f sz [.ref al] (fun L2 f2 => L2 = L ∧ f2 al = eO 0 [.int 0, .null, .int 0] ∧ FrN L f f2 [al]) := by
  refine AV.start (cc := cJxc12de_init_da8c8) (maxL := 1) (by decide +kernel) rfl (by simp [lg_sl, Value.category]) ?_
  intro p e s m args below meth c Q ls hx hb hml hts hown hnm hS hP hK hDS hl hend
  have hA : ∀ a ∈ L, AA L s.heap.size a := fun _ h => Or.inl h
  have hA2 : ∀ q, s.heap.size ≤ q → AA L s.heap.size q := fun _ h => Or.inr h
  have hSub : ∀ a ∈ L, a ∈ L := fun _ h => h
  have hl : lv_has ls 1 [(0, .ref al)] := hl
  have hi_Jx4a65c : ∀ w ∈ u_ws RJx4a65c TJx4a65c 3, w ∈ wsJxc12de_init_da8c8 := by decide +kernel
  have hFr : FrN L f f [al] := FrN.rf
  have h0f_al := hf_al
  refine lv_aload_n hx hb dJxc12de_init_da8c8_0 rfl (lv_at hl 0 rfl) ?_
  refine av_I (As := []) (rest := []) ⟨hx, hb, hml, hown, hts⟩ (m_Jxa1e45_init_da8c8 l g L f _ hN _ _ hL_al hf_al) (cwI 0 hts gJxc12de_init_da8c8_Jxa1e45_init_da8c8 rfl rfl rfl (hts (.initialized RJxa1e45) (by decide +kernel)) (hts (.methodLink RJxc12de 1 yJxa1e45_init_da8c8) (by decide +kernel)) (hts (.instanceMethod yJxa1e45_init_da8c8) (by decide +kernel)) rfl (by decide +kernel) ⟨Nat.le_of_ble_eq_true rfl, Nat.le_of_ble_eq_true rfl⟩) hK hDS hP hA hS rfl hl.1 rfl (Nat.le_of_ble_eq_true rfl) dJxc12de_init_da8c8_1 ⟨(by show 0 + 1 ≤ 1; omega), (by show 60 * (0) + 60 ≤ 60; omega)⟩ (fun L1 f1 H locs hG1 hr1 hP hS hA => ?_)
  refine W.widen (k := 1) (n := 60 * (1)) (by omega) (by omega) ?_
  obtain ⟨q1, q2⟩ := hr1
  obtain rfl : L = L1 := q1.symm
  obtain rfl : f = f1 := q2.symm
  refine lv_aload_n hx hb dJxc12de_init_da8c8_4 rfl (lv_at hl 0 rfl) ?_
  refine lv_iconst (v := 0) hx hb dJxc12de_init_da8c8_5 (by decide) ?_
  refine pg_put (ty := .int) (C := RJx4a65c) (T := TJx4a65c) (N := 3) hx hb hts hi_Jx4a65c tyJx4a65c tyJx4a65c_ok nmJx4a65c hown hK hP hN hA hS hL_al hf_al rfl 0 (by decide) (hts (.fieldLink RJxc12de 7 "java/util/AbstractList" "modCount" "I") (by decide +kernel)) (fun _ h9 => h9) rfl (by decide +kernel) rfl rfl (Nat.le_of_ble_eq_true rfl) dJxc12de_init_da8c8_6 (fun H locs hP hS => ?_)
  obtain ⟨f6, ef6⟩ : ∃ z, z = va_up f al (eO 0 [.int 0, .null, .int 0]) := ⟨_, rfl⟩
  replace hP : PP g L f6 H := by rw [ef6]; exact hP
  have hf_al : f6 al = eO 0 [.int 0, .null, .int 0] := by rw [ef6]; exact va_up_self _ _ _
  replace hFr : FrN L f f6 [al] := by rw [ef6]; exact hFr.up (Or.inl (by simp))
  exact hend L f6 _ _ _ _ _ _ ⟨hN, hSub, hA⟩ (⟨rfl, hf_al, hFr⟩) hP hS (Nat.le_of_ble_eq_true rfl) (Nat.le_of_ble_eq_true rfl) dJxc12de_init_da8c8_9

set_option maxHeartbeats 4000000 in
set_option maxRecDepth 100000 in
theorem m_Jx4a65c_init_da8c8 (l : Launch) (g : GG) (L : List Nat) (f : Nat → va_E) (sz : Nat) (hN : L.Nodup) (t : Nat) (al : Nat) (hL_al : al ∈ L) (hf_al : f al = eO 0 [.int 0, .null, .int 0]) : AV l g yJx4a65c_init_da8c8 wsJx4a65c_init_da8c8 3 53 1 60 t L f sz [.ref al] (fun L2 f2 => L2 = L ∧ f2 al = eO 0 [.int 0, .ref t, .int (nI 0)] ∧ FrN L f f2 [al]) := by
  refine AV.start (cc := cJx4a65c_init_da8c8) (maxL := 1) (by decide +kernel) rfl (by simp [lg_sl, Value.category]) ?_
  intro p e s m args below meth c Q ls hx hb hml hts hown hnm hS hP hK hDS hl hend
  have hA : ∀ a ∈ L, AA L s.heap.size a := fun _ h => Or.inl h
  have hA2 : ∀ q, s.heap.size ≤ q → AA L s.heap.size q := fun _ h => Or.inr h
  have hSub : ∀ a ∈ L, a ∈ L := fun _ h => h
  have hl : lv_has ls 1 [(0, .ref al)] := hl
  have hi_Jx4a65c : ∀ w ∈ u_ws RJx4a65c TJx4a65c 3, w ∈ wsJx4a65c_init_da8c8 := by decide +kernel
  have hFr : FrN L f f [al] := FrN.rf
  have h0f_al := hf_al
  refine lv_aload_n hx hb dJx4a65c_init_da8c8_0 rfl (lv_at hl 0 rfl) ?_
  refine av_I (As := []) (rest := []) ⟨hx, hb, hml, hown, hts⟩ (m_Jxc12de_init_da8c8 l g L f _ hN _ _ hL_al hf_al) (cwI 0 hts gJx4a65c_init_da8c8_Jxc12de_init_da8c8 rfl rfl rfl (hts (.initialized RJxc12de) (by decide +kernel)) (hts (.methodLink RJx4a65c 1 yJxc12de_init_da8c8) (by decide +kernel)) (hts (.instanceMethod yJxc12de_init_da8c8) (by decide +kernel)) rfl (by decide +kernel) ⟨Nat.le_of_ble_eq_true rfl, Nat.le_of_ble_eq_true rfl⟩) hK hDS hP hA hS rfl hl.1 rfl (Nat.le_of_ble_eq_true rfl) dJx4a65c_init_da8c8_1 ⟨(by show 0 + 1 ≤ 1; omega), (by show 60 * (0) + 60 ≤ 60; omega)⟩ (fun L1 f1 H locs hG1 hr1 hP hS hA => ?_)
  refine W.widen (k := 1) (n := 60 * (1)) (by omega) (by omega) ?_
  obtain ⟨hq1, hc1, hw1⟩ := hr1
  obtain rfl : L = L1 := hq1.symm
  have hf_al : f1 al = eO 0 [.int 0, .null, .int 0] := hc1
  replace hFr : FrN L f f1 [al] := hFr.tr2 hSub hw1 (fa_c (Or.inl (by simp)) fa_n)
  refine lv_aload_n hx hb dJx4a65c_init_da8c8_4 rfl (lv_at hl 0 rfl) ?_
  refine va_gets hx hb hDS.1 hS hown (hts (.fieldLink RJx4a65c 39 "java/util/ArrayList" "DEFAULTCAPACITY_EMPTY_ELEMENTDATA" "[Ljava/lang/Object;") (by decide +kernel)) (fun _ h9 => h9) dJx4a65c_init_da8c8_5 ?_
  refine pg_put (ty := (.array (.object "java/lang/Object"))) (C := RJx4a65c) (T := TJx4a65c) (N := 3) hx hb hts hi_Jx4a65c tyJx4a65c tyJx4a65c_ok nmJx4a65c hown hK hP hN hA hS hL_al hf_al rfl 1 (by decide) (hts (.fieldLink RJx4a65c 9 "java/util/ArrayList" "elementData" "[Ljava/lang/Object;") (by decide +kernel)) (fun _ h9 => h9) rfl (by decide +kernel) rfl rfl (Nat.le_of_ble_eq_true rfl) dJx4a65c_init_da8c8_8 (fun H locs hP hS => ?_)
  obtain ⟨f8, ef8⟩ : ∃ z, z = va_up f1 al (eO 0 [.int 0, .ref t, .int 0]) := ⟨_, rfl⟩
  replace hP : PP g L f8 H := by rw [ef8]; exact hP
  have hf_al : f8 al = eO 0 [.int 0, .ref t, .int 0] := by rw [ef8]; exact va_up_self _ _ _
  replace hFr : FrN L f f8 [al] := by rw [ef8]; exact hFr.up (Or.inl (by simp))
  exact hend L f8 _ _ _ _ _ _ ⟨hN, hSub, hA⟩ (⟨rfl, hf_al, hFr⟩) hP hS (Nat.le_of_ble_eq_true rfl) (Nat.le_of_ble_eq_true rfl) dJx4a65c_init_da8c8_11
