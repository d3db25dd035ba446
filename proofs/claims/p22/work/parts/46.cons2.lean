set_option maxHeartbeats 4000000 in
set_option maxRecDepth 100000 in
theorem m_X2_init (l : Launch) (g : GG) (L : List Nat) (f : Nat → va_E) (sz : Nat) (hN : L.Nodup) (t : Nat) (rh k : Nat) (hL_rh : rh ∈ L) (hf_rh : f rh = eO 3 [.null, .int 0]) (hk : k < 20) : AV l g yX2_init wsX2_init 2 44 61 3660 t L f sz [.ref rh, .int (nI k)] (fun L2 f2 => ∃ pa ad aw, pa ∉ L ∧ pa ∈ L2 ∧ f2 rh = eO 3 [.ref pa, .int (nI 0)] ∧ f2 pa = eV g k (vilR ad k) ∧ Vils g L2 f2 k ad aw vs0 ∧ Dst k ad aw ∧ (∀ v, v < k → ad v ∉ L ∧ aw v ∉ L) ∧ FrN L f f2 [rh]) := by
  refine AV.start (cc := cX2_init) (maxL := 3) (by decide +kernel) rfl (by simp [lg_sl, Value.category]) ?_
  intro p e s m args below meth c Q ls hx hb hml hts hown hnm hS hP hK hDS hl hend
  have hA : ∀ a ∈ L, AA L s.heap.size a := fun _ h => Or.inl h
  have hA2 : ∀ q, s.heap.size ≤ q → AA L s.heap.size q := fun _ h => Or.inr h
  have hSub : ∀ a ∈ L, a ∈ L := fun _ h => h
  have hl : lv_has ls 3 [(0, .ref rh), (1, .int (nI k))] := hl
  have hi_X1 : ∀ w ∈ u_ws RX1 TX1 5, w ∈ wsX2_init := by decide +kernel
  have hi_X2 : ∀ w ∈ u_ws RX2 TX2 2, w ∈ wsX2_init := by decide +kernel
  have hFr : FrN L f f [rh] := FrN.rf
  have h0f_rh := hf_rh
  refine lv_aload_n hx hb dX2_init_0 rfl (lv_at hl 0 rfl) ?_
  refine W.objInit hx hb hown (hts (.methodLink RX2 1 objectInit) (by decide +kernel)) (hts (.instanceMethod objectInit) (by decide +kernel)) (hts _ (List.mem_of_getElem? (i := 3) rfl)) rfl (by rw [hml]; exact hl.1) rfl dX2_init_1 (Nat.le_of_ble_eq_true rfl) (Nat.le_of_ble_eq_true rfl) ?_
  refine W.eq (g2 := F0 m 4 ls []) rfl ?_
  refine lv_aload_n hx hb dX2_init_4 rfl (lv_at hl 0 rfl) ?_
  refine lv_iload_n hx hb dX2_init_5 rfl (lv_at hl 1 rfl) ?_
  refine lv_iconst (v := 0) hx hb dX2_init_6 (by decide) ?_
  refine va_mmax hx hb (hml.trans hl.1.symm) hown (hts (.methodLink RX2 7 Lib.Math.max.name) (by decide +kernel)) (hts (.static Lib.Math.max.name) (by decide +kernel)) (hts (.initialized "java/lang/Math") (by decide +kernel)) (hts (.code Lib.Math.max.name Lib.Math.max.code 2 (some .int)) (by decide +kernel)) (Nat.le_of_ble_eq_true rfl) (Nat.le_of_ble_eq_true rfl) (Nat.zero_le _) (Nat.zero_le _) dX2_init_7 ?_
  refine lv_topi (fun v7 ev7 => ?_)
  obtain rfl : v7 = nI k := ev7.trans (if_neg (fun h => absurd ((nI_ltI (a := k) (b := 0) (by omega) (by omega)).mp (show nI k < nI 0 from h)) (by omega)))
  refine pg_newV hx hb hown (hts (.classLink RX2 13 RX1) (by decide +kernel)) hK hP hN hA hA2 hS (k := k) rfl (by omega) (by show 0 + 1 ≤ 61; omega) (by show 60 * (0) + k ≤ 3660; omega) dX2_init_10 (fun q6 H hn0_q6 hA_q6 hP hS => ?_)
  obtain ⟨L6, eL6⟩ : ∃ z, z = q6 :: L := ⟨_, rfl⟩
  obtain ⟨f6, ef6⟩ : ∃ z, z = va_up f q6 (eV g k (fun _ => none)) := ⟨_, rfl⟩
  rw [← eL6, ← ef6] at hP
  have hn_q6 : q6 ∉ L := fun h => hn0_q6 (hSub _ h)
  have n_rh_q6 : rh ≠ q6 := fun z => hn0_q6 (z ▸ hL_rh)
  have hf_rh : f6 rh = eO 3 [.null, .int 0] := by rw [ef6, va_up_ne _ _ n_rh_q6]; exact hf_rh
  have hL_rh : rh ∈ L6 := by rw [eL6]; exact List.mem_cons_of_mem _ hL_rh
  have hf_q6 : f6 q6 = eV g k (fun _ => none) := by rw [ef6]; exact va_up_self _ _ _
  have hL_q6 : q6 ∈ L6 := by rw [eL6]; exact List.mem_cons_self
  have hN : L6.Nodup := by rw [eL6]; exact List.nodup_cons.mpr ⟨hn0_q6, hN⟩
  have hA : ∀ a ∈ L6, AA L s.heap.size a := by rw [eL6]; exact fa_c hA_q6 hA
  have hSub : ∀ a ∈ L, a ∈ L6 := by rw [eL6]; exact fun a h => List.mem_cons_of_mem _ (hSub a h)
  replace hFr : FrN L f f6 [rh] := by rw [ef6]; exact hFr.up (Or.inr hn_q6)
  refine W.widen (k := 1) (n := 60 * (1)) (by omega) (by omega) ?_
  refine pg_putF (ty := (.array (.object "BarometerLeague$Village"))) (C := RX2) (T := TX2) (N := 2) hx hb hts hi_X2 tyX2 tyX2_ok nmX2 hown hK hP hN hA hS hL_rh hf_rh rfl 0 (by decide) (hts (.fieldLink RX2 15 "BarometerLeague$VillageRow" "places" "[LBarometerLeague$Village;") (by decide +kernel)) (fun _ h9 => h9) rfl hnm rfl (by decide +kernel) rfl rfl (Nat.le_of_ble_eq_true rfl) dX2_init_13 (fun H locs hP hS => ?_)
  obtain ⟨f9, ef9⟩ : ∃ z, z = va_up f6 rh (eO 3 [.ref q6, .int 0]) := ⟨_, rfl⟩
  replace hP : PP g L6 f9 H := by rw [ef9]; exact hP
  have hf_q6 : f9 q6 = eV g k (fun _ => none) := by rw [ef9, va_up_ne _ _ n_rh_q6.symm]; exact hf_q6
  have hf_rh : f9 rh = eO 3 [.ref q6, .int 0] := by rw [ef9]; exact va_up_self _ _ _
  replace hFr : FrN L f f9 [rh] := by rw [ef9]; exact hFr.up (Or.inl (by simp))
  refine lv_iconst (v := 0) hx hb dX2_init_16 (by decide) ?_
  refine lv_istore_n (lv' := [(2, .int 0), (0, .ref rh), (1, .int (nI k))]) hx hb dX2_init_17 rfl hl (by decide) rfl (fun ls hl => ?_)
  have hf_q6 : f9 q6 = eV g k (vilR (fun _ => 0) 0) := by rw [hf_q6, vilR_0]
  have K14 : ∀ (n14 : Nat) (i : Nat) (ad : Nat → Nat) (aw : Nat → Nat) (L14 : List Nat) (f14 : Nat → va_E) (H : Heap) (locs : List Loc), k + 1 - i < n14 → i ≤ k → Vils g L14 f14 i ad aw vs0 → Dst i ad aw → (∀ v, v < i → ad v ∉ L ∧ aw v ∉ L) → L14.Nodup → (∀ a ∈ L6, a ∈ L14) → (∀ a ∈ L14, AA L s.heap.size a) → f14 rh = eO 3 [.ref q6, .int 0] → f14 q6 = eV g k (vilR ad i) → FrN L f f14 [rh] → PP g L14 f14 H → va_S (AA L s.heap.size) s.heap H locs → ∀ (ls : Array Slot), lv_has ls 3 [(2, .int (nI i)), (1, .int (nI k)), (0, .ref rh)] → W p l e ({ frames := 2, cells := 61, slots := 3660, locals := 44 } : Room) s m args below meth c H locs (1 + 3 * i) (60 * (1 + 3 * i)) Q (F0 m 18 ls []) := by
    intro n14
    induction n14 with
    | zero => intros; omega
    | succ n14 ih14 =>
      intro i ad aw L14 f14 H locs hm14 hi hV hD hnL hN hSubB hA hq14_0 hq14_1 hFr hP hS ls hl
      have hf_rh : f14 rh = eO 3 [.ref q6, .int 0] := hq14_0
      have hL_rh : rh ∈ L14 := hSubB _ hL_rh
      have hf_q6 : f14 q6 = eV g k (vilR ad i) := hq14_1
      have hL_q6 : q6 ∈ L14 := hSubB _ hL_q6
      have hSub : ∀ a ∈ L, a ∈ L14 := fun a h => hSubB a (hSub a h)
      have hSubC : ∀ a ∈ L14, a ∈ L14 := fun _ h => h
      have hFrC : FrN L14 f14 f14 [q6] := FrN.rf
      refine lv_iload_n hx hb dX2_init_18 rfl (lv_at hl 0 rfl) ?_
      refine lv_aload_n hx hb dX2_init_19 rfl (lv_at hl 2 rfl) ?_
      refine pg_get (C := RX2) (T := TX2) (N := 2) hx hb hts hi_X2 hown hK hP hL_rh hf_rh rfl 0 (by decide) (hts (.fieldLink RX2 15 "BarometerLeague$VillageRow" "places" "[LBarometerLeague$Village;") (by decide +kernel)) (fun _ h9 => h9) rfl dX2_init_20 ?_
      refine pg_alen hx hb hK hP hL_q6 hf_q6 2 rfl (v := nI k) rfl dX2_init_23 ?_
      refine lv_icmp_ge (tgt := 47) hx hb dX2_init_24 (by decide) (fun c20 => ?_) (fun c20 => ?_)
      · skip
        have c20 : k ≤ i := (nI_leI (a := k) (b := i) (by omega) (by omega)).mp (show nI k ≤ nI i from c20)
        obtain rfl : k = i := by omega
        exact hend L14 f14 _ _ _ _ _ _ ⟨hN, hSub, hA⟩ (⟨q6, ad, aw, hn_q6, hL_q6, hf_rh, hf_q6, hV, hD, hnL, hFr⟩) hP hS (by show 1 + 3 * k ≤ 61; omega) (by show 60 * (1 + 3 * k) ≤ 3660; omega) dX2_init_47
      · skip
        have c20 : ¬ k ≤ i := fun h => c20 ((nI_leI (a := k) (b := i) (by omega) (by omega)).mpr h)
        refine lv_aload_n hx hb dX2_init_27 rfl (lv_at hl 2 rfl) ?_
        refine pg_get (C := RX2) (T := TX2) (N := 2) hx hb hts hi_X2 hown hK hP hL_rh hf_rh rfl 0 (by decide) (hts (.fieldLink RX2 15 "BarometerLeague$VillageRow" "places" "[LBarometerLeague$Village;") (by decide +kernel)) (fun _ h9 => h9) rfl dX2_init_28 ?_
        refine lv_iload_n hx hb dX2_init_31 rfl (lv_at hl 0 rfl) ?_
        refine pg_new (ci := 2) (fs := [.null, .int 0, .int 0, .int 0, .int 0]) (C := RX1) (T := TX1) (N := 5) hx hb hts hi_X1 tyX1 tyX1_ok hown (hts (.classLink RX2 13 RX1) (by decide +kernel)) (hts (.instantiable RX1 5) (by decide +kernel)) (hts (.initialized RX1) (by decide +kernel)) hK hP hN hA hA2 hS rfl (fun j hj => by rcases (show j = 0 ∨ j = 1 ∨ j = 2 ∨ j = 3 ∨ j = 4 by omega) with rfl | rfl | rfl | rfl | rfl <;> rfl) (by show 1 + 3 * i + 1 ≤ 61; omega) (by show 60 * (1 + 3 * i) + 5 ≤ 3660; omega) dX2_init_32 (fun q28 H hn0_q28 hA_q28 hP hS => ?_)
        obtain ⟨L28, eL28⟩ : ∃ z, z = q28 :: L14 := ⟨_, rfl⟩
        obtain ⟨f28, ef28⟩ : ∃ z, z = va_up f14 q28 (eO 2 [.null, .int 0, .int 0, .int 0, .int 0]) := ⟨_, rfl⟩
        rw [← eL28, ← ef28] at hP
        have hn_q28 : q28 ∉ L := fun h => hn0_q28 (hSub _ h)
        have hnC_q28 : q28 ∉ L14 := fun h => hn0_q28 (hSubC _ h)
        have n_rh_q28 : rh ≠ q28 := fun z => hn0_q28 (z ▸ hL_rh)
        have hf_rh : f28 rh = eO 3 [.ref q6, .int 0] := by rw [ef28, va_up_ne _ _ n_rh_q28]; exact hf_rh
        have hL_rh : rh ∈ L28 := by rw [eL28]; exact List.mem_cons_of_mem _ hL_rh
        have n_q6_q28 : q6 ≠ q28 := fun z => hn0_q28 (z ▸ hL_q6)
        have hf_q6 : f28 q6 = eV g k (vilR ad i) := by rw [ef28, va_up_ne _ _ n_q6_q28]; exact hf_q6
        have hL_q6 : q6 ∈ L28 := by rw [eL28]; exact List.mem_cons_of_mem _ hL_q6
        have hf_q28 : f28 q28 = eO 2 [.null, .int 0, .int 0, .int 0, .int 0] := by rw [ef28]; exact va_up_self _ _ _
        have hL_q28 : q28 ∈ L28 := by rw [eL28]; exact List.mem_cons_self
        have hN : L28.Nodup := by rw [eL28]; exact List.nodup_cons.mpr ⟨hn0_q28, hN⟩
        have hA : ∀ a ∈ L28, AA L s.heap.size a := by rw [eL28]; exact fa_c hA_q28 hA
        have hSub : ∀ a ∈ L, a ∈ L28 := by rw [eL28]; exact fun a h => List.mem_cons_of_mem _ (hSub a h)
        replace hFr : FrN L f f28 [rh] := by rw [ef28]; exact hFr.up (Or.inr hn_q28)
        have hSubC : ∀ a ∈ L14, a ∈ L28 := by rw [eL28]; exact fun a h => List.mem_cons_of_mem _ (hSubC a h)
        replace hFrC : FrN L14 f14 f28 [q6] := by rw [ef28]; exact hFrC.up (Or.inr hnC_q28)
        refine W.widen (k := 1 + 3 * i + 1) (n := 60 * (1 + 3 * i + 1)) (by omega) (by omega) ?_
        refine lv_dup hx hb dX2_init_35 rfl ?_
        refine lv_iload_n hx hb dX2_init_36 rfl (lv_at hl 0 rfl) ?_
        refine av_I (As := [.int (nI i)]) (rest := [.ref q28, .int (nI i), .ref q6]) ⟨hx, hb, hml, hown, hts⟩ (m_X1_init l g L28 f28 _ hN _ _ _ hL_q28 hf_q28) (cwI 1 hts gX2_init_X1_init rfl rfl rfl (hts (.initialized RX1) (by decide +kernel)) (hts (.methodLink RX2 21 yX1_init) (by decide +kernel)) (hts (.instanceMethod yX1_init) (by decide +kernel)) rfl (by decide +kernel) ⟨Nat.le_of_ble_eq_true rfl, Nat.le_of_ble_eq_true rfl⟩) hK hDS hP hA hS rfl hl.1 rfl (Nat.le_of_ble_eq_true rfl) dX2_init_37 ⟨(by show 1 + 3 * i + 1 + 1 ≤ 61; omega), (by show 60 * (1 + 3 * i + 1) + 60 ≤ 3660; omega)⟩ (fun L33 f33 H locs hG33 hr33 hP hS hA => ?_)
        refine W.widen (k := 1 + 3 * i + 1 + 1) (n := 60 * (1 + 3 * i + 1 + 1)) (by omega) (by omega) ?_
        obtain ⟨q33, hn0_q33, hL_q33, hc33, hf_q33, hw33⟩ := hr33
        have n_rh_q33 : rh ≠ q33 := fun z => hn0_q33 (z ▸ hL_rh)
        have n_q6_q33 : q6 ≠ q33 := fun z => hn0_q33 (z ▸ hL_q6)
        have n_q28_q33 : q28 ≠ q33 := fun z => hn0_q33 (z ▸ hL_q28)
        have hn_q33 : q33 ∉ L := fun h => hn0_q33 (hSub _ h)
        have hnC_q33 : q33 ∉ L14 := fun h => hn0_q33 (hSubC _ h)
        have hf_rh : f33 rh = eO 3 [.ref q6, .int 0] := hw33.get hL_rh hf_rh (nm_c n_rh_q28 (List.not_mem_nil))
        have hf_q6 : f33 q6 = eV g k (vilR ad i) := hw33.get hL_q6 hf_q6 (nm_c n_q6_q28 (List.not_mem_nil))
        have hL_rh : rh ∈ L33 := hG33.2.1 _ hL_rh
        have hL_q6 : q6 ∈ L33 := hG33.2.1 _ hL_q6
        have hL_q28 : q28 ∈ L33 := hG33.2.1 _ hL_q28
        replace hFr : FrN L f f33 [rh] := hFr.tr2 hSub hw33 (fa_c (Or.inr hn_q28) fa_n)
        replace hFrC : FrN L14 f14 f33 [q6] := hFrC.tr2 hSubC hw33 (fa_c (Or.inr hnC_q28) fa_n)
        have hN := hG33.1
        have hSub : ∀ a ∈ L, a ∈ L33 := fun a h => hG33.2.1 a (hSub a h)
        have hSubC : ∀ a ∈ L14, a ∈ L33 := fun a h => hG33.2.1 a (hSubC a h)
        have hf_q28 : f33 q28 = eO 2 [.ref q33, .int (nI i), .int 0, .int 10, .int 0] := hc33
        refine pn_vast (j := i) hx hb hK hP hN hA hS hL_q6 hf_q6 hL_q28 hf_q28 rfl (by omega) (Nat.lt_of_lt_of_le (m := 100) (by omega) (by omega)) dX2_init_40 (fun H locs hP hS => ?_)
        obtain ⟨f36, ef36⟩ : ∃ z, z = va_up f33 q6 (eV g k (va_up (vilR ad i) i (some q28))) := ⟨_, rfl⟩
        replace hP : PP g L33 f36 H := by rw [ef36]; exact hP
        have hf_rh : f36 rh = eO 3 [.ref q6, .int 0] := by rw [ef36, va_up_ne _ _ n_rh_q6]; exact hf_rh
        have hf_q28 : f36 q28 = eO 2 [.ref q33, .int (nI i), .int 0, .int 10, .int 0] := by rw [ef36, va_up_ne _ _ n_q6_q28.symm]; exact hf_q28
        have hf_q33 : f36 q33 = eI g 8 w20 := by rw [ef36, va_up_ne _ _ n_q6_q33.symm]; exact hf_q33
        have hf_q6 : f36 q6 = eV g k (va_up (vilR ad i) i (some q28)) := by rw [ef36]; exact va_up_self _ _ _
        replace hFr : FrN L f f36 [rh] := by rw [ef36]; exact hFr.up (Or.inr hn_q6)
        replace hFrC : FrN L14 f14 f36 [q6] := by rw [ef36]; exact hFrC.up (Or.inl (by simp))
        refine lv_iinc (v := nI (i + 1)) (lv' := [(2, .int (nI (i + 1))), (1, .int (nI k)), (0, .ref rh)]) hx hb dX2_init_41 hl (k := 0) rfl (nI_1 _) (by decide) rfl (fun ls hl => ?_)
        refine lv_goto (tgt := 18) hx hb dX2_init_44 (by decide) ?_
        have hf_q6 : f36 q6 = eV g k (vilR (pushN ad i q28) (i + 1)) := by rw [hf_q6, vilR_s]
        refine W.widen (k := 1 + 3 * (i + 1)) (n := 60 * (1 + 3 * (i + 1))) (by omega) (by omega) ?_
        exact ih14 (i + 1) (pushN ad i q28) (pushN aw i q33) L33 f36 H locs (by omega) (by omega) ((hV.frN hSubC hFrC (fun v hv => ⟨nm_c (ne_e (hV v hv).2.1 hq14_1 (by simp)) List.not_mem_nil, nm_c (ne_e (hV v hv).2.2.2 hq14_1 (by simp)) List.not_mem_nil⟩)).push hL_q28 hL_q33 hf_q28 hf_q33) (hD.push (fun v hv => ⟨fun z => hnC_q28 (by rw [z]; exact (hV v hv).1), fun z => hnC_q33 (by rw [z]; exact (hV v hv).2.2.1)⟩)) (fun v hv => ⟨pushN_all (P := fun z => z ∉ L) (fun v hv => (hnL v hv).1) hn_q28 v hv, pushN_all (P := fun z => z ∉ L) (fun v hv => (hnL v hv).2) hn_q33 v hv⟩) hN (fun a h => hSubC a (hSubB a h)) hA hf_rh hf_q6 hFr hP hS ls (lv_sub hl [0, 1, 2] rfl)
  refine W.widen (k := 1 + 3 * 0) (n := 60 * (1 + 3 * 0)) (by omega) (by omega) ?_
  exact K14 _ 0 (fun _ => 0) (fun _ => 0) L6 f9 _ _ (Nat.lt_succ_self _) (Nat.zero_le _) (fun v hv => absurd hv (Nat.not_lt_zero v)) (fun u v hu => absurd hu (Nat.not_lt_zero u)) (fun v hv => absurd hv (Nat.not_lt_zero v)) hN (fun _ h => h) hA hf_rh hf_q6 hFr hP hS ls (lv_sub hl [0, 2, 1] rfl)

set_option maxHeartbeats 4000000 in
set_option maxRecDepth 100000 in
theorem m_Jx4a65c_grow_92f84 (l : Launch) (g : GG) (L : List Nat) (f : Nat → va_E) (sz : Nat) (hN : L.Nodup) (t : Nat) (al : Nat) (mo : Int32) (hL_al : al ∈ L) (hf_al : f al = eO 0 [.int mo, .ref t, .int (nI 0)]) : AR l g yJx4a65c_grow_92f84 wsJx4a65c_grow_92f84 1 21 2 120 t L f sz [.ref al, .int (nI 1)] (fun x L2 f2 => x ∉ L ∧ x ∈ L2 ∧ f2 al = eO 0 [.int mo, .ref x, .int (nI 0)] ∧ f2 x = eQ g 10 (fun _ => none) ∧ FrN L f f2 [al]) := by
  refine AR.start (cc := cJx4a65c_grow_92f84) (maxL := 4) (ret := (.array (.object "java/lang/Object"))) (by decide +kernel) rfl (by simp [lg_sl, Value.category]) (Or.inr ⟨_, rfl⟩) ?_
  intro p e s m args below meth c Q ls hx hb hml hts hown hnm hS hP hK hDS hl hend
  have hA : ∀ a ∈ L, AA L s.heap.size a := fun _ h => Or.inl h
  have hA2 : ∀ q, s.heap.size ≤ q → AA L s.heap.size q := fun _ h => Or.inr h
  have hSub : ∀ a ∈ L, a ∈ L := fun _ h => h
  have hl : lv_has ls 4 [(0, .ref al), (1, .int (nI 1))] := hl
  have hi_Jx4a65c : ∀ w ∈ u_ws RJx4a65c TJx4a65c 3, w ∈ wsJx4a65c_grow_92f84 := by decide +kernel
  have hFr : FrN L f f [al] := FrN.rf
  have h0f_al := hf_al
  refine lv_aload_n hx hb dJx4a65c_grow_92f84_0 rfl (lv_at hl 0 rfl) ?_
  refine pg_get (C := RJx4a65c) (T := TJx4a65c) (N := 3) hx hb hts hi_Jx4a65c hown hK hP hL_al hf_al rfl 1 (by decide) (hts (.fieldLink RJx4a65c 9 "java/util/ArrayList" "elementData" "[Ljava/lang/Object;") (by decide +kernel)) (fun _ h9 => h9) rfl dJx4a65c_grow_92f84_1 ?_
  refine va_tlen hx hb hDS.2 hS (v := nI 0) rfl dJx4a65c_grow_92f84_4 ?_
  refine lv_istore_n (lv' := [(2, .int (nI 0)), (0, .ref al), (1, .int (nI 1))]) hx hb dJx4a65c_grow_92f84_5 rfl hl (by decide) rfl (fun ls hl => ?_)
  refine lv_iload_n hx hb dJx4a65c_grow_92f84_6 rfl (lv_at hl 0 rfl) ?_
  refine lv_if_gt (tgt := 20) hx hb dJx4a65c_grow_92f84_7 (by decide) (fun c7 => by exfalso; have c7 := (nI_ltI (a := 0) (b := 0) (by omega) (by omega)).mp (show nI 0 < nI 0 from c7); omega) (fun c7 => ?_)
  have c7 : ¬ 0 < 0 := fun h => c7 ((nI_ltI (a := 0) (b := 0) (by omega) (by omega)).mpr h)
  refine lv_aload_n hx hb dJx4a65c_grow_92f84_10 rfl (lv_at hl 1 rfl) ?_
  refine pg_get (C := RJx4a65c) (T := TJx4a65c) (N := 3) hx hb hts hi_Jx4a65c hown hK hP hL_al hf_al rfl 1 (by decide) (hts (.fieldLink RJx4a65c 9 "java/util/ArrayList" "elementData" "[Ljava/lang/Object;") (by decide +kernel)) (fun _ h9 => h9) rfl dJx4a65c_grow_92f84_11 ?_
  refine va_gets hx hb hDS.1 hS hown (hts (.fieldLink RJx4a65c 39 "java/util/ArrayList" "DEFAULTCAPACITY_EMPTY_ELEMENTDATA" "[Ljava/lang/Object;") (by decide +kernel)) (fun _ h9 => h9) dJx4a65c_grow_92f84_14 ?_
  refine lv_acmp_eq (rx := some t) (ry := some t) (tgt := 45) hx hb dJx4a65c_grow_92f84_17 (by decide) (fun _ => ?_) (fun h => absurd rfl h)
  refine lv_aload_n hx hb dJx4a65c_grow_92f84_45 rfl (lv_at hl 1 rfl) ?_
  refine lv_bipush (v := 10) hx hb dJx4a65c_grow_92f84_46 (by decide) ?_
  refine lv_iload_n hx hb dJx4a65c_grow_92f84_48 rfl (lv_at hl 2 rfl) ?_
  refine va_mmax hx hb (hml.trans hl.1.symm) hown (hts (.methodLink RJx4a65c 79 Lib.Math.max.name) (by decide +kernel)) (hts (.static Lib.Math.max.name) (by decide +kernel)) (hts (.initialized "java/lang/Math") (by decide +kernel)) (hts (.code Lib.Math.max.name Lib.Math.max.code 2 (some .int)) (by decide +kernel)) (Nat.le_of_ble_eq_true rfl) (Nat.le_of_ble_eq_true rfl) (Nat.zero_le _) (Nat.zero_le _) dJx4a65c_grow_92f84_49 ?_
  refine lv_topi (fun v49 ev49 => ?_)
  obtain rfl : v49 = nI 10 := ev49.trans (by decide +kernel)
  refine pg_newQ hx hb hown (hts (.classLink RJx4a65c 7 "java/lang/Object") (by decide +kernel)) hK hP hN hA hA2 hS (k := 10) rfl (by omega) (by show 0 + 1 ≤ 2; omega) (by show 60 * (0) + 10 ≤ 120; omega) dJx4a65c_grow_92f84_52 (fun q52 H hn0_q52 hA_q52 hP hS => ?_)
  obtain ⟨L52, eL52⟩ : ∃ z, z = q52 :: L := ⟨_, rfl⟩
  obtain ⟨f52, ef52⟩ : ∃ z, z = va_up f q52 (eQ g 10 (fun _ => none)) := ⟨_, rfl⟩
  rw [← eL52, ← ef52] at hP
  have hn_q52 : q52 ∉ L := fun h => hn0_q52 (hSub _ h)
  have n_al_q52 : al ≠ q52 := fun z => hn0_q52 (z ▸ hL_al)
  have hf_al : f52 al = eO 0 [.int mo, .ref t, .int (nI 0)] := by rw [ef52, va_up_ne _ _ n_al_q52]; exact hf_al
  have hL_al : al ∈ L52 := by rw [eL52]; exact List.mem_cons_of_mem _ hL_al
  have hf_q52 : f52 q52 = eQ g 10 (fun _ => none) := by rw [ef52]; exact va_up_self _ _ _
  have hL_q52 : q52 ∈ L52 := by rw [eL52]; exact List.mem_cons_self
  have hN : L52.Nodup := by rw [eL52]; exact List.nodup_cons.mpr ⟨hn0_q52, hN⟩
  have hA : ∀ a ∈ L52, AA L s.heap.size a := by rw [eL52]; exact fa_c hA_q52 hA
  have hSub : ∀ a ∈ L, a ∈ L52 := by rw [eL52]; exact fun a h => List.mem_cons_of_mem _ (hSub a h)
  replace hFr : FrN L f f52 [al] := by rw [ef52]; exact hFr.up (Or.inr hn_q52)
  refine W.widen (k := 1) (n := 60 * (1)) (by omega) (by omega) ?_
  refine lv_dup_x1 hx hb dJx4a65c_grow_92f84_55 rfl rfl ?_
  refine pg_put (ty := (.array (.object "java/lang/Object"))) (C := RJx4a65c) (T := TJx4a65c) (N := 3) hx hb hts hi_Jx4a65c tyJx4a65c tyJx4a65c_ok nmJx4a65c hown hK hP hN hA hS hL_al hf_al rfl 1 (by decide) (hts (.fieldLink RJx4a65c 9 "java/util/ArrayList" "elementData" "[Ljava/lang/Object;") (by decide +kernel)) (fun _ h9 => h9) rfl (by decide +kernel) rfl rfl (Nat.le_of_ble_eq_true rfl) dJx4a65c_grow_92f84_56 (fun H locs hP hS => ?_)
  obtain ⟨f56, ef56⟩ : ∃ z, z = va_up f52 al (eO 0 [.int mo, .ref q52, .int (nI 0)]) := ⟨_, rfl⟩
  replace hP : PP g L52 f56 H := by rw [ef56]; exact hP
  have hf_q52 : f56 q52 = eQ g 10 (fun _ => none) := by rw [ef56, va_up_ne _ _ n_al_q52.symm]; exact hf_q52
  have hf_al : f56 al = eO 0 [.int mo, .ref q52, .int (nI 0)] := by rw [ef56]; exact va_up_self _ _ _
  replace hFr : FrN L f f56 [al] := by rw [ef56]; exact hFr.up (Or.inl (by simp))
  exact hend (q52) L52 f56 _ _ _ _ _ _ ⟨hN, hSub, hA⟩ (⟨hn_q52, hL_q52, hf_al, hf_q52, hFr⟩) hP hS (Nat.le_of_ble_eq_true rfl) (Nat.le_of_ble_eq_true rfl) dJx4a65c_grow_92f84_59

set_option maxHeartbeats 4000000 in
set_option maxRecDepth 100000 in
theorem m_Jx4a65c_grow_d5877 (l : Launch) (g : GG) (L : List Nat) (f : Nat → va_E) (sz : Nat) (hN : L.Nodup) (t : Nat) (al : Nat) (mo : Int32) (hL_al : al ∈ L) (hf_al : f al = eO 0 [.int mo, .ref t, .int (nI 0)]) : AR l g yJx4a65c_grow_d5877 wsJx4a65c_grow_d5877 2 44 3 180 t L f sz [.ref al] (fun x L2 f2 => x ∉ L ∧ x ∈ L2 ∧ f2 al = eO 0 [.int mo, .ref x, .int (nI 0)] ∧ f2 x = eQ g 10 (fun _ => none) ∧ FrN L f f2 [al]) := by
  refine AR.start (cc := cJx4a65c_grow_d5877) (maxL := 1) (ret := (.array (.object "java/lang/Object"))) (by decide +kernel) rfl (by simp [lg_sl, Value.category]) (Or.inr ⟨_, rfl⟩) ?_
  intro p e s m args below meth c Q ls hx hb hml hts hown hnm hS hP hK hDS hl hend
  have hA : ∀ a ∈ L, AA L s.heap.size a := fun _ h => Or.inl h
  have hA2 : ∀ q, s.heap.size ≤ q → AA L s.heap.size q := fun _ h => Or.inr h
  have hSub : ∀ a ∈ L, a ∈ L := fun _ h => h
  have hl : lv_has ls 1 [(0, .ref al)] := hl
  have hi_Jx4a65c : ∀ w ∈ u_ws RJx4a65c TJx4a65c 3, w ∈ wsJx4a65c_grow_d5877 := by decide +kernel
  have hFr : FrN L f f [al] := FrN.rf
  have h0f_al := hf_al
  refine lv_aload_n hx hb dJx4a65c_grow_d5877_0 rfl (lv_at hl 0 rfl) ?_
  refine lv_aload_n hx hb dJx4a65c_grow_d5877_1 rfl (lv_at hl 0 rfl) ?_
  refine pg_get (C := RJx4a65c) (T := TJx4a65c) (N := 3) hx hb hts hi_Jx4a65c hown hK hP hL_al hf_al rfl 2 (by decide) (hts (.fieldLink RJx4a65c 48 "java/util/ArrayList" "size" "I") (by decide +kernel)) (fun _ h9 => h9) rfl dJx4a65c_grow_d5877_2 ?_
  refine lv_iconst (v := 1) hx hb dJx4a65c_grow_d5877_5 (by decide) ?_
  refine lv_iadd hx hb dJx4a65c_grow_d5877_6 ?_
  refine lv_topi (fun v6 ev6 => ?_)
  have ev6 : v6 = nI (0 + 1) := (ev6.trans (nat_add rfl rfl))
  subst ev6
  refine ar_V (As := [.int (nI (0 + 1))]) (rest := []) ⟨hx, hb, hml, hown, hts⟩ (m_Jx4a65c_grow_92f84 l g L f _ hN _ _ _ hL_al hf_al) (cwV 1 hts gJx4a65c_grow_d5877_Jx4a65c_grow_92f84 rfl rfl rfl (by decide +kernel) ⟨Nat.le_of_ble_eq_true rfl, Nat.le_of_ble_eq_true rfl⟩) hK hDS hP hA hS hL_al hf_al rfl rfl hl.1 rfl (Nat.le_of_ble_eq_true rfl) dJx4a65c_grow_d5877_7 ⟨(by show 0 + 2 ≤ 3; omega), (by show 60 * (0) + 120 ≤ 180; omega)⟩ (fun x7 L7 f7 H locs hG7 hr7 hP hS hA => ?_)
  refine W.widen (k := 2) (n := 60 * (2)) (by omega) (by omega) ?_
  obtain ⟨hn0_x7, hL_x7, hc7, hf_x7, hw7⟩ := hr7
  have n_al_x7 : al ≠ x7 := fun z => hn0_x7 (z ▸ hL_al)
  have hn_x7 : x7 ∉ L := fun h => hn0_x7 (hSub _ h)
  have hL_al : al ∈ L7 := hG7.2.1 _ hL_al
  replace hFr : FrN L f f7 [al] := hFr.tr2 hSub hw7 (fa_c (Or.inl (by simp)) fa_n)
  have hN := hG7.1
  have hSub : ∀ a ∈ L, a ∈ L7 := fun a h => hG7.2.1 a (hSub a h)
  have hf_al : f7 al = eO 0 [.int mo, .ref x7, .int (nI 0)] := hc7
  exact hend (x7) L7 f7 _ _ _ _ _ _ ⟨hN, hSub, hA⟩ (⟨hn_x7, hL_x7, hf_al, hf_x7, hFr⟩) hP hS (Nat.le_of_ble_eq_true rfl) (Nat.le_of_ble_eq_true rfl) dJx4a65c_grow_d5877_10

set_option maxHeartbeats 4000000 in
set_option maxRecDepth 100000 in
theorem m_Jx4a65c_add_72be8 (l : Launch) (g : GG) (L : List Nat) (f : Nat → va_E) (sz : Nat) (hN : L.Nodup) (t : Nat) (al so : Nat) (mo k1 k2 : Int32) (hL_al : al ∈ L) (hf_al : f al = eO 0 [.int mo, .ref t, .int (nI 0)]) (hL_so : so ∈ L) (hf_so : f so = eO 1 [.int k1, .int k2]) : AV l g yJx4a65c_add_72be8 wsJx4a65c_add_72be8 3 64 4 240 t L f sz [.ref al, .ref so, .ref t, .int (nI 0)] (fun L2 f2 => ∃ x, x ∉ L ∧ x ∈ L2 ∧ f2 al = eO 0 [.int (mo), .ref x, .int (nI 1)] ∧ f2 x = eQ g 10 (va_up (fun _ => none) 0 (some so)) ∧ FrN L f f2 [al]) := by
  refine AV.start (cc := cJx4a65c_add_72be8) (maxL := 4) (by decide +kernel) rfl (by simp [lg_sl, Value.category]) ?_
  intro p e s m args below meth c Q ls hx hb hml hts hown hnm hS hP hK hDS hl hend
  have hA : ∀ a ∈ L, AA L s.heap.size a := fun _ h => Or.inl h
  have hA2 : ∀ q, s.heap.size ≤ q → AA L s.heap.size q := fun _ h => Or.inr h
  have hSub : ∀ a ∈ L, a ∈ L := fun _ h => h
  have hl : lv_has ls 4 [(0, .ref al), (1, .ref so), (2, .ref t), (3, .int (nI 0))] := hl
  have hi_Jx4a65c : ∀ w ∈ u_ws RJx4a65c TJx4a65c 3, w ∈ wsJx4a65c_add_72be8 := by decide +kernel
  have hFr : FrN L f f [al] := FrN.rf
  have n_al_so : al ≠ so := ne_e hf_al hf_so (by simp)
  have h0f_al := hf_al
  have h0f_so := hf_so
  refine lv_iload_n hx hb dJx4a65c_add_72be8_0 rfl (lv_at hl 3 rfl) ?_
  refine lv_aload_n hx hb dJx4a65c_add_72be8_1 rfl (lv_at hl 2 rfl) ?_
  refine va_tlen hx hb hDS.2 hS (v := nI 0) rfl dJx4a65c_add_72be8_2 ?_
  refine lv_icmp_ne (tgt := 11) hx hb dJx4a65c_add_72be8_3 (by decide) (fun c3 => by exfalso; exact c3 ((nI_eq (a := 0) (b := 0) (by omega) (by omega)).mpr (by omega))) (fun c3 => ?_)
  have c3 : 0 = 0 := (nI_eq (a := 0) (b := 0) (by omega) (by omega)).mp (show nI 0 = nI 0 from c3)
  refine lv_aload_n hx hb dJx4a65c_add_72be8_6 rfl (lv_at hl 0 rfl) ?_
  refine ar_V (As := []) (rest := []) ⟨hx, hb, hml, hown, hts⟩ (m_Jx4a65c_grow_d5877 l g L f _ hN _ _ _ hL_al hf_al) (cwV 0 hts gJx4a65c_add_72be8_Jx4a65c_grow_d5877 rfl rfl rfl (by decide +kernel) ⟨Nat.le_of_ble_eq_true rfl, Nat.le_of_ble_eq_true rfl⟩) hK hDS hP hA hS hL_al hf_al rfl rfl hl.1 rfl (Nat.le_of_ble_eq_true rfl) dJx4a65c_add_72be8_7 ⟨(by show 0 + 3 ≤ 4; omega), (by show 60 * (0) + 180 ≤ 240; omega)⟩ (fun x7 L7 f7 H locs hG7 hr7 hP hS hA => ?_)
  refine W.widen (k := 3) (n := 60 * (3)) (by omega) (by omega) ?_
  obtain ⟨hn0_x7, hL_x7, hc7, hf_x7, hw7⟩ := hr7
  have n_al_x7 : al ≠ x7 := fun z => hn0_x7 (z ▸ hL_al)
  have n_so_x7 : so ≠ x7 := fun z => hn0_x7 (z ▸ hL_so)
  have hn_x7 : x7 ∉ L := fun h => hn0_x7 (hSub _ h)
  have hf_so : f7 so = eO 1 [.int k1, .int k2] := hw7.get hL_so hf_so (nm_c n_al_so.symm (List.not_mem_nil))
  have hL_al : al ∈ L7 := hG7.2.1 _ hL_al
  have hL_so : so ∈ L7 := hG7.2.1 _ hL_so
  replace hFr : FrN L f f7 [al] := hFr.tr2 hSub hw7 (fa_c (Or.inl (by simp)) fa_n)
  have hN := hG7.1
  have hSub : ∀ a ∈ L, a ∈ L7 := fun a h => hG7.2.1 a (hSub a h)
  have hf_al : f7 al = eO 0 [.int mo, .ref x7, .int (nI 0)] := hc7
  refine lv_astore_n (lv' := [(2, .ref x7), (0, .ref al), (1, .ref so), (3, .int (nI 0))]) hx hb dJx4a65c_add_72be8_10 rfl hl (by decide) rfl (fun ls hl => ?_)
  refine lv_aload_n hx hb dJx4a65c_add_72be8_11 rfl (lv_at hl 0 rfl) ?_
  refine lv_iload_n hx hb dJx4a65c_add_72be8_12 rfl (lv_at hl 3 rfl) ?_
  refine lv_aload_n hx hb dJx4a65c_add_72be8_13 rfl (lv_at hl 2 rfl) ?_
  refine pn_qast (j := 0) hx hb hK hP hN hA hS hL_x7 hf_x7 hL_so hf_so rfl (by omega) (Nat.lt_of_lt_of_le (m := 100) (by omega) (by omega)) dJx4a65c_add_72be8_14 (fun H locs hP hS => ?_)
  obtain ⟨f14, ef14⟩ : ∃ z, z = va_up f7 x7 (eQ g 10 (va_up (fun _ => none) 0 (some so))) := ⟨_, rfl⟩
  replace hP : PP g L7 f14 H := by rw [ef14]; exact hP
  have hf_al : f14 al = eO 0 [.int mo, .ref x7, .int (nI 0)] := by rw [ef14, va_up_ne _ _ n_al_x7]; exact hf_al
  have hf_so : f14 so = eO 1 [.int k1, .int k2] := by rw [ef14, va_up_ne _ _ n_so_x7]; exact hf_so
  have hf_x7 : f14 x7 = eQ g 10 (va_up (fun _ => none) 0 (some so)) := by rw [ef14]; exact va_up_self _ _ _
  replace hFr : FrN L f f14 [al] := by rw [ef14]; exact hFr.up (Or.inr hn_x7)
  refine lv_aload_n hx hb dJx4a65c_add_72be8_15 rfl (lv_at hl 1 rfl) ?_
  refine lv_iload_n hx hb dJx4a65c_add_72be8_16 rfl (lv_at hl 3 rfl) ?_
  refine lv_iconst (v := 1) hx hb dJx4a65c_add_72be8_17 (by decide) ?_
  refine lv_iadd hx hb dJx4a65c_add_72be8_18 ?_
  refine lv_topi (fun v18 ev18 => ?_)
  have ev18 : v18 = nI (0 + 1) := (ev18.trans (nat_add rfl rfl))
  subst ev18
  refine pg_put (ty := .int) (C := RJx4a65c) (T := TJx4a65c) (N := 3) hx hb hts hi_Jx4a65c tyJx4a65c tyJx4a65c_ok nmJx4a65c hown hK hP hN hA hS hL_al hf_al rfl 2 (by decide) (hts (.fieldLink RJx4a65c 48 "java/util/ArrayList" "size" "I") (by decide +kernel)) (fun _ h9 => h9) rfl (by decide +kernel) rfl rfl (Nat.le_of_ble_eq_true rfl) dJx4a65c_add_72be8_19 (fun H locs hP hS => ?_)
  obtain ⟨f19, ef19⟩ : ∃ z, z = va_up f14 al (eO 0 [.int mo, .ref x7, .int (nI (0 + 1))]) := ⟨_, rfl⟩
  replace hP : PP g L7 f19 H := by rw [ef19]; exact hP
  have hf_so : f19 so = eO 1 [.int k1, .int k2] := by rw [ef19, va_up_ne _ _ n_al_so.symm]; exact hf_so
  have hf_x7 : f19 x7 = eQ g 10 (va_up (fun _ => none) 0 (some so)) := by rw [ef19, va_up_ne _ _ n_al_x7.symm]; exact hf_x7
  have hf_al : f19 al = eO 0 [.int mo, .ref x7, .int (nI (0 + 1))] := by rw [ef19]; exact va_up_self _ _ _
  replace hFr : FrN L f f19 [al] := by rw [ef19]; exact hFr.up (Or.inl (by simp))
  exact hend L7 f19 _ _ _ _ _ _ ⟨hN, hSub, hA⟩ (⟨x7, hn_x7, hL_x7, hf_al, hf_x7, hFr⟩) hP hS (Nat.le_of_ble_eq_true rfl) (Nat.le_of_ble_eq_true rfl) dJx4a65c_add_72be8_22

set_option maxHeartbeats 4000000 in
set_option maxRecDepth 100000 in
theorem m_Jx4a65c_add_9ea2d (l : Launch) (g : GG) (L : List Nat) (f : Nat → va_E) (sz : Nat) (hN : L.Nodup) (t : Nat) (al so : Nat) (mo k1 k2 : Int32) (hL_al : al ∈ L) (hf_al : f al = eO 0 [.int mo, .ref t, .int (nI 0)]) (hL_so : so ∈ L) (hf_so : f so = eO 1 [.int k1, .int k2]) : AW l g yJx4a65c_add_9ea2d wsJx4a65c_add_9ea2d 4 87 5 300 t L f sz [.ref al, .ref so] (fun r L2 f2 => ∃ x, x ∉ L ∧ x ∈ L2 ∧ f2 al = eO 0 [.int (mo + 1), .ref x, .int (nI 1)] ∧ f2 x = eQ g 10 (va_up (fun _ => none) 0 (some so)) ∧ FrN L f f2 [al]) := by
  refine AW.start (cc := cJx4a65c_add_9ea2d) (maxL := 2) (ret := .boolean) (by decide +kernel) rfl (by simp [lg_sl, Value.category]) ?_
  intro p e s m args below meth c Q ls hx hb hml hts hown hnm hS hP hK hDS hl hend
  have hA : ∀ a ∈ L, AA L s.heap.size a := fun _ h => Or.inl h
  have hA2 : ∀ q, s.heap.size ≤ q → AA L s.heap.size q := fun _ h => Or.inr h
  have hSub : ∀ a ∈ L, a ∈ L := fun _ h => h
  have hl : lv_has ls 2 [(0, .ref al), (1, .ref so)] := hl
  have hi_Jx4a65c : ∀ w ∈ u_ws RJx4a65c TJx4a65c 3, w ∈ wsJx4a65c_add_9ea2d := by decide +kernel
  have hFr : FrN L f f [al] := FrN.rf
  have n_al_so : al ≠ so := ne_e hf_al hf_so (by simp)
  have h0f_al := hf_al
  have h0f_so := hf_so
  refine lv_aload_n hx hb dJx4a65c_add_9ea2d_0 rfl (lv_at hl 0 rfl) ?_
  refine lv_dup hx hb dJx4a65c_add_9ea2d_1 rfl ?_
  refine pg_get (C := RJx4a65c) (T := TJx4a65c) (N := 3) hx hb hts hi_Jx4a65c hown hK hP hL_al hf_al rfl 0 (by decide) (hts (.fieldLink RJx4a65c 63 "java/util/ArrayList" "modCount" "I") (by decide +kernel)) (fun x9 h9 => u_same (hts (.sameField "java/util/ArrayList" "java/util/AbstractList" "modCount" "I") (by decide +kernel)) x9 h9) rfl dJx4a65c_add_9ea2d_2 ?_
  refine lv_iconst (v := 1) hx hb dJx4a65c_add_9ea2d_5 (by decide) ?_
  refine lv_iadd hx hb dJx4a65c_add_9ea2d_6 ?_
  refine lv_topi (fun v6 ev6 => ?_)
  refine pg_put (ty := .int) (C := RJx4a65c) (T := TJx4a65c) (N := 3) hx hb hts hi_Jx4a65c tyJx4a65c tyJx4a65c_ok nmJx4a65c hown hK hP hN hA hS hL_al hf_al rfl 0 (by decide) (hts (.fieldLink RJx4a65c 63 "java/util/ArrayList" "modCount" "I") (by decide +kernel)) (fun x9 h9 => u_same (hts (.sameField "java/util/ArrayList" "java/util/AbstractList" "modCount" "I") (by decide +kernel)) x9 h9) rfl (by decide +kernel) rfl rfl (Nat.le_of_ble_eq_true rfl) dJx4a65c_add_9ea2d_7 (fun H locs hP hS => ?_)
  obtain ⟨f7, ef7⟩ : ∃ z, z = va_up f al (eO 0 [.int v6, .ref t, .int (nI 0)]) := ⟨_, rfl⟩
  replace hP : PP g L f7 H := by rw [ef7]; exact hP
  have hf_so : f7 so = eO 1 [.int k1, .int k2] := by rw [ef7, va_up_ne _ _ n_al_so.symm]; exact hf_so
  have hf_al : f7 al = eO 0 [.int v6, .ref t, .int (nI 0)] := by rw [ef7]; exact va_up_self _ _ _
  replace hFr : FrN L f f7 [al] := by rw [ef7]; exact hFr.up (Or.inl (by simp))
  refine lv_aload_n hx hb dJx4a65c_add_9ea2d_10 rfl (lv_at hl 0 rfl) ?_
  refine lv_aload_n hx hb dJx4a65c_add_9ea2d_11 rfl (lv_at hl 1 rfl) ?_
  refine lv_aload_n hx hb dJx4a65c_add_9ea2d_12 rfl (lv_at hl 0 rfl) ?_
  refine pg_get (C := RJx4a65c) (T := TJx4a65c) (N := 3) hx hb hts hi_Jx4a65c hown hK hP hL_al hf_al rfl 1 (by decide) (hts (.fieldLink RJx4a65c 9 "java/util/ArrayList" "elementData" "[Ljava/lang/Object;") (by decide +kernel)) (fun _ h9 => h9) rfl dJx4a65c_add_9ea2d_13 ?_
  refine lv_aload_n hx hb dJx4a65c_add_9ea2d_16 rfl (lv_at hl 0 rfl) ?_
  refine pg_get (C := RJx4a65c) (T := TJx4a65c) (N := 3) hx hb hts hi_Jx4a65c hown hK hP hL_al hf_al rfl 2 (by decide) (hts (.fieldLink RJx4a65c 48 "java/util/ArrayList" "size" "I") (by decide +kernel)) (fun _ h9 => h9) rfl dJx4a65c_add_9ea2d_17 ?_
  refine av_V (As := [.ref so, .ref t, .int (nI 0)]) (rest := []) ⟨hx, hb, hml, hown, hts⟩ (m_Jx4a65c_add_72be8 l g L f7 _ hN _ _ _ _ _ _ hL_al hf_al hL_so hf_so) (cwV 3 hts gJx4a65c_add_9ea2d_Jx4a65c_add_72be8 rfl rfl rfl (by decide +kernel) ⟨Nat.le_of_ble_eq_true rfl, Nat.le_of_ble_eq_true rfl⟩) hK hDS hP hA hS hL_al hf_al rfl rfl hl.1 rfl (Nat.le_of_ble_eq_true rfl) dJx4a65c_add_9ea2d_20 ⟨(by show 0 + 4 ≤ 5; omega), (by show 60 * (0) + 240 ≤ 300; omega)⟩ (fun L20 f20 H locs hG20 hr20 hP hS hA => ?_)
  refine W.widen (k := 4) (n := 60 * (4)) (by omega) (by omega) ?_
  obtain ⟨x20, hn0_x20, hL_x20, hc20, hf_x20, hw20⟩ := hr20
  have n_al_x20 : al ≠ x20 := fun z => hn0_x20 (z ▸ hL_al)
  have n_so_x20 : so ≠ x20 := fun z => hn0_x20 (z ▸ hL_so)
  have hn_x20 : x20 ∉ L := fun h => hn0_x20 (hSub _ h)
  have hf_so : f20 so = eO 1 [.int k1, .int k2] := hw20.get hL_so hf_so (nm_c n_al_so.symm (List.not_mem_nil))
  have hL_al : al ∈ L20 := hG20.2.1 _ hL_al
  have hL_so : so ∈ L20 := hG20.2.1 _ hL_so
  replace hFr : FrN L f f20 [al] := hFr.tr2 hSub hw20 (fa_c (Or.inl (by simp)) fa_n)
  have hN := hG20.1
  have hSub : ∀ a ∈ L, a ∈ L20 := fun a h => hG20.2.1 a (hSub a h)
  have hf_al : f20 al = eO 0 [.int v6, .ref x20, .int (nI 1)] := hc20
  refine lv_iconst (v := 1) hx hb dJx4a65c_add_9ea2d_23 (by decide) ?_
  exact hend (1) L20 f20 _ _ _ _ _ _ ⟨hN, hSub, hA⟩ (⟨x20, hn_x20, hL_x20, by rw [hf_al, ev6], hf_x20, hFr⟩) hP hS rfl (Nat.le_of_ble_eq_true rfl) (Nat.le_of_ble_eq_true rfl) dJx4a65c_add_9ea2d_24

set_option maxHeartbeats 4000000 in
set_option maxRecDepth 100000 in
theorem m_Jx4a65c_add_72be8_b (l : Launch) (g : GG) (L : List Nat) (f : Nat → va_E) (sz : Nat) (hN : L.Nodup) (al so ed n : Nat) (mo k1 k2 : Int32) (el : Nat → Option Nat) (hL_al : al ∈ L) (hf_al : f al = eO 0 [.int mo, .ref ed, .int (nI n)]) (hL_ed : ed ∈ L) (hf_ed : f ed = eQ g 10 el) (hL_so : so ∈ L) (hf_so : f so = eO 1 [.int k1, .int k2]) (hn : n < 8) : RV l g yJx4a65c_add_72be8 wsJx4a65c_add_72be8 0 0 L f sz [.ref al, .ref so, .ref ed, .int (nI n)] (fun f2 => f2 al = eO 0 [.int mo, .ref ed, .int (nI (n + 1))] ∧ f2 ed = eQ g 10 (va_up el n (some so)) ∧ Fr f f2 [al, ed]) := by
  refine RV.start (cc := cJx4a65c_add_72be8) (maxL := 4) (by decide +kernel) rfl (by simp [lg_sl, Value.category]) ?_
  intro p e s m args below meth c Q ls A hx hb hml hts hown hA hA2 hS hP hK hl hend
  have hl : lv_has ls 4 [(0, .ref al), (1, .ref so), (2, .ref ed), (3, .int (nI n))] := hl
  have hi_Jx4a65c : ∀ w ∈ u_ws RJx4a65c TJx4a65c 3, w ∈ wsJx4a65c_add_72be8 := by decide +kernel
  have hFr : Fr f f [al, ed] := Fr.rf
  have n_al_ed : al ≠ ed := ne_e hf_al hf_ed (by simp)
  have n_al_so : al ≠ so := ne_e hf_al hf_so (by simp)
  have n_ed_so : ed ≠ so := ne_e hf_ed hf_so (by simp)
  have h0f_al := hf_al
  have h0f_ed := hf_ed
  have h0f_so := hf_so
  refine lv_iload_n hx hb dJx4a65c_add_72be8_0 rfl (lv_at hl 3 rfl) ?_
  refine lv_aload_n hx hb dJx4a65c_add_72be8_1 rfl (lv_at hl 2 rfl) ?_
  refine pg_alen hx hb hK hP hL_ed hf_ed 3 rfl (v := nI 10) rfl dJx4a65c_add_72be8_2 ?_
  refine lv_icmp_ne (tgt := 11) hx hb dJx4a65c_add_72be8_3 (by decide) (fun c3 => ?_) (fun c3 => by exfalso; have c3 := (nI_eq (a := n) (b := 10) (by omega) (by omega)).mp (show nI n = nI 10 from c3); omega)
  have c3 : ¬ n = 10 := fun h => c3 ((nI_eq (a := n) (b := 10) (by omega) (by omega)).mpr h)
  refine lv_aload_n hx hb dJx4a65c_add_72be8_11 rfl (lv_at hl 2 rfl) ?_
  refine lv_iload_n hx hb dJx4a65c_add_72be8_12 rfl (lv_at hl 3 rfl) ?_
  refine lv_aload_n hx hb dJx4a65c_add_72be8_13 rfl (lv_at hl 1 rfl) ?_
  refine pn_qast (j := n) hx hb hK hP hN hA hS hL_ed hf_ed hL_so hf_so rfl (by omega) (Nat.lt_of_lt_of_le (m := 100) (by omega) (by omega)) dJx4a65c_add_72be8_14 (fun H locs hP hS => ?_)
  obtain ⟨f14, ef14⟩ : ∃ z, z = va_up f ed (eQ g 10 (va_up el n (some so))) := ⟨_, rfl⟩
  replace hP : PP g L f14 H := by rw [ef14]; exact hP
  have hf_al : f14 al = eO 0 [.int mo, .ref ed, .int (nI n)] := by rw [ef14, va_up_ne _ _ n_al_ed]; exact hf_al
  have hf_so : f14 so = eO 1 [.int k1, .int k2] := by rw [ef14, va_up_ne _ _ n_ed_so.symm]; exact hf_so
  have hf_ed : f14 ed = eQ g 10 (va_up el n (some so)) := by rw [ef14]; exact va_up_self _ _ _
  replace hFr : Fr f f14 [al, ed] := by rw [ef14]; exact hFr.up (by simp)
  refine lv_aload_n hx hb dJx4a65c_add_72be8_15 rfl (lv_at hl 0 rfl) ?_
  refine lv_iload_n hx hb dJx4a65c_add_72be8_16 rfl (lv_at hl 3 rfl) ?_
  refine lv_iconst (v := 1) hx hb dJx4a65c_add_72be8_17 (by decide) ?_
  refine lv_iadd hx hb dJx4a65c_add_72be8_18 ?_
  refine lv_topi (fun v18 ev18 => ?_)
  have ev18 : v18 = nI (n + 1) := (ev18.trans (nat_add rfl rfl))
  subst ev18
  refine pg_put (ty := .int) (C := RJx4a65c) (T := TJx4a65c) (N := 3) hx hb hts hi_Jx4a65c tyJx4a65c tyJx4a65c_ok nmJx4a65c hown hK hP hN hA hS hL_al hf_al rfl 2 (by decide) (hts (.fieldLink RJx4a65c 48 "java/util/ArrayList" "size" "I") (by decide +kernel)) (fun _ h9 => h9) rfl (by decide +kernel) rfl rfl (Nat.le_of_ble_eq_true rfl) dJx4a65c_add_72be8_19 (fun H locs hP hS => ?_)
  obtain ⟨f19, ef19⟩ : ∃ z, z = va_up f14 al (eO 0 [.int mo, .ref ed, .int (nI (n + 1))]) := ⟨_, rfl⟩
  replace hP : PP g L f19 H := by rw [ef19]; exact hP
  have hf_ed : f19 ed = eQ g 10 (va_up el n (some so)) := by rw [ef19, va_up_ne _ _ n_al_ed.symm]; exact hf_ed
  have hf_so : f19 so = eO 1 [.int k1, .int k2] := by rw [ef19, va_up_ne _ _ n_al_so.symm]; exact hf_so
  have hf_al : f19 al = eO 0 [.int mo, .ref ed, .int (nI (n + 1))] := by rw [ef19]; exact va_up_self _ _ _
  replace hFr : Fr f f19 [al, ed] := by rw [ef19]; exact hFr.up (by simp)
  exact hend f19 _ _ _ _ (⟨hf_al, hf_ed, hFr⟩) hP hS dJx4a65c_add_72be8_22

set_option maxHeartbeats 4000000 in
set_option maxRecDepth 100000 in
theorem m_Jx4a65c_add_9ea2d_b (l : Launch) (g : GG) (L : List Nat) (f : Nat → va_E) (sz : Nat) (hN : L.Nodup) (al so ed n : Nat) (mo k1 k2 : Int32) (el : Nat → Option Nat) (hL_al : al ∈ L) (hf_al : f al = eO 0 [.int mo, .ref ed, .int (nI n)]) (hL_ed : ed ∈ L) (hf_ed : f ed = eQ g 10 el) (hL_so : so ∈ L) (hf_so : f so = eO 1 [.int k1, .int k2]) (hn : n < 8) : RW l g yJx4a65c_add_9ea2d wsJx4a65c_add_9ea2d 1 23 L f sz [.ref al, .ref so] (fun r f2 => r = 1 ∧ f2 al = eO 0 [.int (mo + 1), .ref ed, .int (nI (n + 1))] ∧ f2 ed = eQ g 10 (va_up el n (some so)) ∧ Fr f f2 [al, ed]) := by
  refine RW.start (cc := cJx4a65c_add_9ea2d) (maxL := 2) (ret := .boolean) (by decide +kernel) rfl (by simp [lg_sl, Value.category]) ?_
  intro p e s m args below meth c Q ls A hx hb hml hts hown hA hA2 hS hP hK hl hend
  have hl : lv_has ls 2 [(0, .ref al), (1, .ref so)] := hl
  have hi_Jx4a65c : ∀ w ∈ u_ws RJx4a65c TJx4a65c 3, w ∈ wsJx4a65c_add_9ea2d := by decide +kernel
  have hFr : Fr f f [al, ed] := Fr.rf
  have n_al_ed : al ≠ ed := ne_e hf_al hf_ed (by simp)
  have n_al_so : al ≠ so := ne_e hf_al hf_so (by simp)
  have n_ed_so : ed ≠ so := ne_e hf_ed hf_so (by simp)
  have h0f_al := hf_al
  have h0f_ed := hf_ed
  have h0f_so := hf_so
  refine lv_aload_n hx hb dJx4a65c_add_9ea2d_0 rfl (lv_at hl 0 rfl) ?_
  refine lv_dup hx hb dJx4a65c_add_9ea2d_1 rfl ?_
  refine pg_get (C := RJx4a65c) (T := TJx4a65c) (N := 3) hx hb hts hi_Jx4a65c hown hK hP hL_al hf_al rfl 0 (by decide) (hts (.fieldLink RJx4a65c 63 "java/util/ArrayList" "modCount" "I") (by decide +kernel)) (fun x9 h9 => u_same (hts (.sameField "java/util/ArrayList" "java/util/AbstractList" "modCount" "I") (by decide +kernel)) x9 h9) rfl dJx4a65c_add_9ea2d_2 ?_
  refine lv_iconst (v := 1) hx hb dJx4a65c_add_9ea2d_5 (by decide) ?_
  refine lv_iadd hx hb dJx4a65c_add_9ea2d_6 ?_
  refine lv_topi (fun v6 ev6 => ?_)
  refine pg_put (ty := .int) (C := RJx4a65c) (T := TJx4a65c) (N := 3) hx hb hts hi_Jx4a65c tyJx4a65c tyJx4a65c_ok nmJx4a65c hown hK hP hN hA hS hL_al hf_al rfl 0 (by decide) (hts (.fieldLink RJx4a65c 63 "java/util/ArrayList" "modCount" "I") (by decide +kernel)) (fun x9 h9 => u_same (hts (.sameField "java/util/ArrayList" "java/util/AbstractList" "modCount" "I") (by decide +kernel)) x9 h9) rfl (by decide +kernel) rfl rfl (Nat.le_of_ble_eq_true rfl) dJx4a65c_add_9ea2d_7 (fun H locs hP hS => ?_)
  obtain ⟨f7, ef7⟩ : ∃ z, z = va_up f al (eO 0 [.int v6, .ref ed, .int (nI n)]) := ⟨_, rfl⟩
  replace hP : PP g L f7 H := by rw [ef7]; exact hP
  have hf_ed : f7 ed = eQ g 10 el := by rw [ef7, va_up_ne _ _ n_al_ed.symm]; exact hf_ed
  have hf_so : f7 so = eO 1 [.int k1, .int k2] := by rw [ef7, va_up_ne _ _ n_al_so.symm]; exact hf_so
  have hf_al : f7 al = eO 0 [.int v6, .ref ed, .int (nI n)] := by rw [ef7]; exact va_up_self _ _ _
  replace hFr : Fr f f7 [al, ed] := by rw [ef7]; exact hFr.up (by simp)
  refine lv_aload_n hx hb dJx4a65c_add_9ea2d_10 rfl (lv_at hl 0 rfl) ?_
  refine lv_aload_n hx hb dJx4a65c_add_9ea2d_11 rfl (lv_at hl 1 rfl) ?_
  refine lv_aload_n hx hb dJx4a65c_add_9ea2d_12 rfl (lv_at hl 0 rfl) ?_
  refine pg_get (C := RJx4a65c) (T := TJx4a65c) (N := 3) hx hb hts hi_Jx4a65c hown hK hP hL_al hf_al rfl 1 (by decide) (hts (.fieldLink RJx4a65c 9 "java/util/ArrayList" "elementData" "[Ljava/lang/Object;") (by decide +kernel)) (fun _ h9 => h9) rfl dJx4a65c_add_9ea2d_13 ?_
  refine lv_aload_n hx hb dJx4a65c_add_9ea2d_16 rfl (lv_at hl 0 rfl) ?_
  refine pg_get (C := RJx4a65c) (T := TJx4a65c) (N := 3) hx hb hts hi_Jx4a65c hown hK hP hL_al hf_al rfl 2 (by decide) (hts (.fieldLink RJx4a65c 48 "java/util/ArrayList" "size" "I") (by decide +kernel)) (fun _ h9 => h9) rfl dJx4a65c_add_9ea2d_17 ?_
  refine rv_V (As := [.ref so, .ref ed, .int (nI n)]) (rest := []) ⟨hx, hb, hml, hown, hts⟩ (m_Jx4a65c_add_72be8_b l g L f7 _ hN _ _ _ _ _ _ _ _ hL_al hf_al hL_ed hf_ed hL_so hf_so hn) (cwV 3 hts gJx4a65c_add_9ea2d_Jx4a65c_add_72be8 rfl rfl rfl (by decide +kernel) ⟨Nat.le_of_ble_eq_true rfl, Nat.le_of_ble_eq_true rfl⟩) hK hP hA hA2 hS hL_al hf_al rfl rfl hl.1 rfl (Nat.le_of_ble_eq_true rfl) dJx4a65c_add_9ea2d_20 ⟨Nat.zero_le _, Nat.zero_le _⟩ (fun f20 H locs hr20 hP hS => ?_)
  obtain ⟨hc20_0, hc20_1, hw20⟩ := hr20
  have hf_so : f20 so = eO 1 [.int k1, .int k2] := hw20.get hf_so (nm_c n_al_so.symm (nm_c n_ed_so.symm (List.not_mem_nil)))
  have hf_al : f20 al = eO 0 [.int v6, .ref ed, .int (nI (n + 1))] := hc20_0
  have hf_ed : f20 ed = eQ g 10 (va_up el n (some so)) := hc20_1
  replace hFr : Fr f f20 [al, ed] := hFr.tr hw20 (by simp)
  refine lv_iconst (v := 1) hx hb dJx4a65c_add_9ea2d_23 (by decide) ?_
  exact hend (1) f20 _ _ _ _ (⟨rfl, by rw [hf_al, ev6], hf_ed, hFr⟩) hP hS rfl dJx4a65c_add_9ea2d_24

set_option maxHeartbeats 4000000 in
set_option maxRecDepth 100000 in
theorem m_X4_sign (l : Launch) (hst : l.stackTraces = false) (g : GG) (L : List Nat) (f : Nat → va_E) (sz : Nat) (hN : L.Nodup) (t : Nat) (lo we al rv d sy rt ed n : Nat) (mo : Int32) (kd nu : Nat → Int32) (so : Nat → Nat) (el : Nat → Option Nat) (x y : Int32) (hL_lo : lo ∈ L) (hf_lo : f lo = eO 5 [.ref we, .ref al, .ref rv, .int (nI d), .ref sy, .ref rt]) (hL_al : al ∈ L) (hf_al : f al = eO 0 [.int mo, .ref ed, .int (nI n)]) (hn : n ≤ 8) (hSg : Sgs g L f n ed so el kd nu) (h0 : n = 0 → ed = t) : TA l g yX4_sign wsX4_sign 6 108 12 720 t L f sz [.ref lo, .int x, .int y] (fun r L2 f2 => r = nI n ∧ n < 8 ∧ inB x 6 = true ∧ inB y 61 = true ∧ ∃ q ed2 el2, q ∉ L ∧ q ∈ L2 ∧ (ed2 = ed ∨ ed2 ∉ L) ∧ f2 al = eO 0 [.int (mo + 1), .ref ed2, .int (nI (n + 1))] ∧ Sgs g L2 f2 (n + 1) ed2 (fun j => if j = n then q else so j) el2 (upd kd n x) (upd nu n y) ∧ FrN L f f2 [al, ed]) (fun E => (E = "java/lang/IllegalArgumentException" ∧ (inB x 6 && inB y 61) = false) ∨ (E = "java/lang/IllegalStateException" ∧ inB x 6 = true ∧ inB y 61 = true ∧ n = 8)) := by
  refine TA.start (cc := cX4_sign) (maxL := 3) (ret := .int) hst (by decide) rfl (by simp [lg_sl, Value.category]) (by decide) (by decide) ?_
  intro p e s m args below meth c Q ls hx hb hml hts hown hS hP hK hZ hDS hl hend hthr hprop
  have hA : ∀ a ∈ L, AA L s.heap.size a := fun _ h => Or.inl h
  have hA2 : ∀ q, s.heap.size ≤ q → AA L s.heap.size q := fun _ h => Or.inr h
  have hSub : ∀ a ∈ L, a ∈ L := fun _ h => h
  have hl : lv_has ls 3 [(0, .ref lo), (1, .int x), (2, .int y)] := hl
  have hi_X0 : ∀ w ∈ u_ws RX0 TX0 2, w ∈ wsX4_sign := by decide +kernel
  have hi_X4 : ∀ w ∈ u_ws RX4 TX4 6, w ∈ wsX4_sign := by decide +kernel
  have hFr : FrN L f f [al, ed] := FrN.rf
  have n_lo_al : lo ≠ al := ne_e hf_lo hf_al (by simp)
  have h0f_lo := hf_lo
  have h0f_al := hf_al
  refine lv_iload_n hx hb dX4_sign_0 rfl (lv_at hl 1 rfl) ?_
  refine lv_if_lt (tgt := 9) hx hb dX4_sign_1 (by decide) (fun c1 => ?_) (fun c1 => ?_)
  · skip
    exact hthr "java/lang/IllegalArgumentException" "the kinds of signs are 0 to 5" 57 5 42 65 46 _ _ _ _ 9 _ (Or.inl ⟨rfl, (by rw [show inB x 6 = false from le_out1 (k := 5) (by omega) c1]; rfl)⟩) hP hS (Nat.le_of_ble_eq_true rfl) (Nat.le_of_ble_eq_true rfl) (by decide +kernel) rfl rfl (hts (.classLink RX4 42 "java/lang/IllegalArgumentException") (by decide +kernel)) (hts (.initialized "java/lang/IllegalArgumentException") (by decide +kernel)) (by decide +kernel) (by decide +kernel) (by decide +kernel) hl.1 ⟨dX4_sign_9, dX4_sign_12, dX4_sign_13, dX4_sign_15, dX4_sign_18⟩
  · skip
    refine lv_iload_n hx hb dX4_sign_4 rfl (lv_at hl 1 rfl) ?_
    refine lv_iconst (v := 5) hx hb dX4_sign_5 (by decide) ?_
    refine lv_icmp_le (tgt := 19) hx hb dX4_sign_6 (by decide) (fun c6 => ?_) (fun c6 => ?_)
    · skip
      refine lv_iload_n hx hb dX4_sign_19 rfl (lv_at hl 2 rfl) ?_
      refine lv_if_lt (tgt := 29) hx hb dX4_sign_20 (by decide) (fun c20 => ?_) (fun c20 => ?_)
      · skip
        exact hthr "java/lang/IllegalArgumentException" "the number of a sign is 0 to 60" 57 6 42 67 46 _ _ _ _ 29 _ (Or.inl ⟨rfl, (by rw [show inB y 61 = false from le_out1 (k := 60) (by omega) c20, Bool.and_false])⟩) hP hS (Nat.le_of_ble_eq_true rfl) (Nat.le_of_ble_eq_true rfl) (by decide +kernel) rfl rfl (hts (.classLink RX4 42 "java/lang/IllegalArgumentException") (by decide +kernel)) (hts (.initialized "java/lang/IllegalArgumentException") (by decide +kernel)) (by decide +kernel) (by decide +kernel) (by decide +kernel) hl.1 ⟨dX4_sign_29, dX4_sign_32, dX4_sign_33, dX4_sign_35, dX4_sign_38⟩
      · skip
        refine lv_iload_n hx hb dX4_sign_23 rfl (lv_at hl 2 rfl) ?_
        refine lv_bipush (v := 60) hx hb dX4_sign_24 (by decide) ?_
        refine lv_icmp_le (tgt := 39) hx hb dX4_sign_26 (by decide) (fun c26 => ?_) (fun c26 => ?_)
        · skip
          refine lv_aload_n hx hb dX4_sign_39 rfl (lv_at hl 0 rfl) ?_
          refine pg_get (C := RX4) (T := TX4) (N := 6) hx hb hts hi_X4 hown hK hP hL_lo hf_lo rfl 1 (by decide) (hts (.fieldLink RX4 19 "BarometerLeague" "signs" "Ljava/util/ArrayList;") (by decide +kernel)) (fun _ h9 => h9) rfl dX4_sign_40 ?_
          refine ro_V (As := []) (rest := []) ⟨hx, hb, hml, hown, hts⟩ (m_Jx4a65c_size_8abf5 l g L f _ _ _ _ hL_al hf_al) (cwV 0 hts gX4_sign_Jx4a65c_size_8abf5 rfl rfl rfl (by decide +kernel) ⟨Nat.le_of_ble_eq_true rfl, Nat.le_of_ble_eq_true rfl⟩) hK hP hL_al hf_al rfl rfl hl.1 rfl (Nat.le_of_ble_eq_true rfl) dX4_sign_43 ⟨(Nat.le_of_ble_eq_true rfl), (Nat.le_of_ble_eq_true rfl)⟩ (fun r43 hr43 => ?_)
          have hr43 : r43 = nI n := hr43
          subst hr43
          refine lv_bipush (v := 8) hx hb dX4_sign_46 (by decide) ?_
          refine lv_icmp_lt (tgt := 61) hx hb dX4_sign_48 (by decide) (fun c48 => ?_) (fun c48 => ?_)
          · skip
            have c48 : n < 8 := (nI_ltI (a := n) (b := 8) (by omega) (by omega)).mp (show nI n < nI 8 from c48)
            have hx6 : inB x 6 = true := le_in (k := 5) (by omega) c1 c6
            have hy6 : inB y 61 = true := le_in (k := 60) (by omega) c20 c26
            by_cases h0n : n = 0
            · skip
              have hf_al : f al = eO 0 [.int mo, .ref t, .int (nI 0)] := by rw [hf_al, h0 h0n, h0n]
              refine lv_aload_n hx hb dX4_sign_61 rfl (lv_at hl 0 rfl) ?_
              refine pg_get (C := RX4) (T := TX4) (N := 6) hx hb hts hi_X4 hown hK hP hL_lo hf_lo rfl 1 (by decide) (hts (.fieldLink RX4 19 "BarometerLeague" "signs" "Ljava/util/ArrayList;") (by decide +kernel)) (fun _ h9 => h9) rfl dX4_sign_62 ?_
              refine pg_new (ci := 1) (fs := [.int 0, .int 0]) (C := RX0) (T := TX0) (N := 2) hx hb hts hi_X0 tyX0 tyX0_ok hown (hts (.classLink RX4 78 RX0) (by decide +kernel)) (hts (.instantiable RX0 2) (by decide +kernel)) (hts (.initialized RX0) (by decide +kernel)) hK hP hN hA hA2 hS rfl (fun j hj => by rcases (show j = 0 ∨ j = 1 by omega) with rfl | rfl <;> rfl) (by show 0 + 1 ≤ 12; omega) (by show 60 * (0) + 2 ≤ 720; omega) dX4_sign_65 (fun q65 H hn0_q65 hA_q65 hP hS => ?_)
              obtain ⟨L65, eL65⟩ : ∃ z, z = q65 :: L := ⟨_, rfl⟩
              obtain ⟨f65, ef65⟩ : ∃ z, z = va_up f q65 (eO 1 [.int 0, .int 0]) := ⟨_, rfl⟩
              rw [← eL65, ← ef65] at hP
              have hn_q65 : q65 ∉ L := fun h => hn0_q65 (hSub _ h)
              have n_lo_q65 : lo ≠ q65 := fun z => hn0_q65 (z ▸ hL_lo)
              have hf_lo : f65 lo = eO 5 [.ref we, .ref al, .ref rv, .int (nI d), .ref sy, .ref rt] := by rw [ef65, va_up_ne _ _ n_lo_q65]; exact hf_lo
              have hL_lo : lo ∈ L65 := by rw [eL65]; exact List.mem_cons_of_mem _ hL_lo
              have n_al_q65 : al ≠ q65 := fun z => hn0_q65 (z ▸ hL_al)
              have hf_al : f65 al = eO 0 [.int mo, .ref t, .int (nI 0)] := by rw [ef65, va_up_ne _ _ n_al_q65]; exact hf_al
              have hL_al : al ∈ L65 := by rw [eL65]; exact List.mem_cons_of_mem _ hL_al
              have hf_q65 : f65 q65 = eO 1 [.int 0, .int 0] := by rw [ef65]; exact va_up_self _ _ _
              have hL_q65 : q65 ∈ L65 := by rw [eL65]; exact List.mem_cons_self
              have hN : L65.Nodup := by rw [eL65]; exact List.nodup_cons.mpr ⟨hn0_q65, hN⟩
              have hA : ∀ a ∈ L65, AA L s.heap.size a := by rw [eL65]; exact fa_c hA_q65 hA
              have hSub : ∀ a ∈ L, a ∈ L65 := by rw [eL65]; exact fun a h => List.mem_cons_of_mem _ (hSub a h)
              replace hFr : FrN L f f65 [al, ed] := by rw [ef65]; exact hFr.up (Or.inr hn_q65)
              refine W.widen (k := 1) (n := 60 * (1)) (by omega) (by omega) ?_
              refine lv_dup hx hb dX4_sign_68 rfl ?_
              refine lv_iload_n hx hb dX4_sign_69 rfl (lv_at hl 1 rfl) ?_
              refine lv_iload_n hx hb dX4_sign_70 rfl (lv_at hl 2 rfl) ?_
              refine av_I (As := [.int x, .int y]) (rest := [.ref q65, .ref al]) ⟨hx, hb, hml, hown, hts⟩ (m_X0_init l g L65 f65 _ hN _ _ _ _ hL_q65 hf_q65) (cwI 2 hts gX4_sign_X0_init rfl rfl rfl (hts (.initialized RX0) (by decide +kernel)) (hts (.methodLink RX4 80 yX0_init) (by decide +kernel)) (hts (.instanceMethod yX0_init) (by decide +kernel)) rfl (by decide +kernel) ⟨Nat.le_of_ble_eq_true rfl, Nat.le_of_ble_eq_true rfl⟩) hK hDS hP hA hS rfl hl.1 rfl (Nat.le_of_ble_eq_true rfl) dX4_sign_71 ⟨(by show 1 + 1 ≤ 12; omega), (by show 60 * (1) + 60 ≤ 720; omega)⟩ (fun L71 f71 H locs hG71 hr71 hP hS hA => ?_)
              refine W.widen (k := 2) (n := 60 * (2)) (by omega) (by omega) ?_
              obtain ⟨hc71, hq71, hw71⟩ := hr71
              have hf_lo : f71 lo = eO 5 [.ref we, .ref al, .ref rv, .int (nI d), .ref sy, .ref rt] := hw71.get hL_lo hf_lo (nm_c n_lo_q65 (List.not_mem_nil))
              have hf_al : f71 al = eO 0 [.int mo, .ref t, .int (nI 0)] := hw71.get hL_al hf_al (nm_c n_al_q65 (List.not_mem_nil))
              have hL_lo : lo ∈ L71 := hG71.2.1 _ hL_lo
              have hL_al : al ∈ L71 := hG71.2.1 _ hL_al
              have hL_q65 : q65 ∈ L71 := hG71.2.1 _ hL_q65
              replace hFr : FrN L f f71 [al, ed] := hFr.tr2 hSub hw71 (fa_c (Or.inr hn_q65) fa_n)
              have hN := hG71.1
              have hSub : ∀ a ∈ L, a ∈ L71 := fun a h => hG71.2.1 a (hSub a h)
              have hf_q65 : f71 q65 = eO 1 [.int x, .int y] := hc71
              refine aw_V (As := [.ref q65]) (rest := []) ⟨hx, hb, hml, hown, hts⟩ (m_Jx4a65c_add_9ea2d l g L71 f71 _ hN _ _ _ _ _ _ hL_al hf_al hL_q65 hf_q65) (cwV 1 hts gX4_sign_Jx4a65c_add_9ea2d rfl rfl rfl (by decide +kernel) ⟨Nat.le_of_ble_eq_true rfl, Nat.le_of_ble_eq_true rfl⟩) hK hDS hP hA hS hL_al hf_al rfl rfl hl.1 rfl (Nat.le_of_ble_eq_true rfl) dX4_sign_74 ⟨(by show 2 + 5 ≤ 12; omega), (by show 60 * (2) + 300 ≤ 720; omega)⟩ (fun r74 L74 f74 H locs hG74 hr74 hP hS hA => ?_)
              refine W.widen (k := 7) (n := 60 * (7)) (by omega) (by omega) ?_
              obtain ⟨x74, hn0_x74, hL_x74, hc74, hf_x74, hw74⟩ := hr74
              have n_lo_x74 : lo ≠ x74 := fun z => hn0_x74 (z ▸ hL_lo)
              have n_al_x74 : al ≠ x74 := fun z => hn0_x74 (z ▸ hL_al)
              have n_q65_x74 : q65 ≠ x74 := fun z => hn0_x74 (z ▸ hL_q65)
              have hn_x74 : x74 ∉ L := fun h => hn0_x74 (hSub _ h)
              have hf_lo : f74 lo = eO 5 [.ref we, .ref al, .ref rv, .int (nI d), .ref sy, .ref rt] := hw74.get hL_lo hf_lo (nm_c n_lo_al (List.not_mem_nil))
              have hf_q65 : f74 q65 = eO 1 [.int x, .int y] := hw74.get hL_q65 hf_q65 (nm_c n_al_q65.symm (List.not_mem_nil))
              have hL_lo : lo ∈ L74 := hG74.2.1 _ hL_lo
              have hL_al : al ∈ L74 := hG74.2.1 _ hL_al
              have hL_q65 : q65 ∈ L74 := hG74.2.1 _ hL_q65
              replace hFr : FrN L f f74 [al, ed] := hFr.tr2 hSub hw74 (fa_c (Or.inl (by simp)) fa_n)
              have hN := hG74.1
              have hSub : ∀ a ∈ L, a ∈ L74 := fun a h => hG74.2.1 a (hSub a h)
              have hf_al : f74 al = eO 0 [.int (mo + 1), .ref x74, .int (nI 1)] := hc74
              refine lv_pop hx hb dX4_sign_77 rfl ?_
              refine lv_aload_n hx hb dX4_sign_78 rfl (lv_at hl 0 rfl) ?_
              refine pg_get (C := RX4) (T := TX4) (N := 6) hx hb hts hi_X4 hown hK hP hL_lo hf_lo rfl 1 (by decide) (hts (.fieldLink RX4 19 "BarometerLeague" "signs" "Ljava/util/ArrayList;") (by decide +kernel)) (fun _ h9 => h9) rfl dX4_sign_79 ?_
              refine ro_V (As := []) (rest := []) ⟨hx, hb, hml, hown, hts⟩ (m_Jx4a65c_size_8abf5 l g L74 f74 _ _ _ _ hL_al hf_al) (cwV 0 hts gX4_sign_Jx4a65c_size_8abf5 rfl rfl rfl (by decide +kernel) ⟨Nat.le_of_ble_eq_true rfl, Nat.le_of_ble_eq_true rfl⟩) hK hP hL_al hf_al rfl rfl hl.1 rfl (Nat.le_of_ble_eq_true rfl) dX4_sign_82 ⟨(Nat.le_of_ble_eq_true rfl), (Nat.le_of_ble_eq_true rfl)⟩ (fun r82 hr82 => ?_)
              have hr82 : r82 = nI 1 := hr82
              subst hr82
              refine lv_iconst (v := 1) hx hb dX4_sign_85 (by decide) ?_
              refine lv_isub hx hb dX4_sign_86 ?_
              refine lv_topi (fun v86 ev86 => ?_)
              exact hend (v86) L74 f74 _ _ _ _ _ _ ⟨hN, hSub, hA⟩ (⟨by rw [ev86, h0n]; rfl, by omega, hx6, hy6, q65, x74, _, hn_q65, hL_q65, Or.inr hn_x74, by rw [hf_al, h0n], Sgs.one h0n hL_q65 hf_q65 hL_x74 hf_x74, hFr⟩) hP hS rfl (Nat.le_of_ble_eq_true rfl) (Nat.le_of_ble_eq_true rfl) dX4_sign_87
            · skip
              obtain ⟨-, -, -, hL_ed, hf_ed⟩ := hSg 0 (by omega)
              have n_al_ed : al ≠ ed := ne_e hf_al hf_ed (by simp)
              have n_lo_ed : lo ≠ ed := ne_e hf_lo hf_ed (by simp)
              have h0_al := hf_al
              have h0_ed := hf_ed
              refine lv_aload_n hx hb dX4_sign_61 rfl (lv_at hl 0 rfl) ?_
              refine pg_get (C := RX4) (T := TX4) (N := 6) hx hb hts hi_X4 hown hK hP hL_lo hf_lo rfl 1 (by decide) (hts (.fieldLink RX4 19 "BarometerLeague" "signs" "Ljava/util/ArrayList;") (by decide +kernel)) (fun _ h9 => h9) rfl dX4_sign_62 ?_
              refine pg_new (ci := 1) (fs := [.int 0, .int 0]) (C := RX0) (T := TX0) (N := 2) hx hb hts hi_X0 tyX0 tyX0_ok hown (hts (.classLink RX4 78 RX0) (by decide +kernel)) (hts (.instantiable RX0 2) (by decide +kernel)) (hts (.initialized RX0) (by decide +kernel)) hK hP hN hA hA2 hS rfl (fun j hj => by rcases (show j = 0 ∨ j = 1 by omega) with rfl | rfl <;> rfl) (by show 0 + 1 ≤ 12; omega) (by show 60 * (0) + 2 ≤ 720; omega) dX4_sign_65 (fun q65 H hn0_q65 hA_q65 hP hS => ?_)
              obtain ⟨L65, eL65⟩ : ∃ z, z = q65 :: L := ⟨_, rfl⟩
              obtain ⟨f65, ef65⟩ : ∃ z, z = va_up f q65 (eO 1 [.int 0, .int 0]) := ⟨_, rfl⟩
              rw [← eL65, ← ef65] at hP
              have hn_q65 : q65 ∉ L := fun h => hn0_q65 (hSub _ h)
              have n_lo_q65 : lo ≠ q65 := fun z => hn0_q65 (z ▸ hL_lo)
              have hf_lo : f65 lo = eO 5 [.ref we, .ref al, .ref rv, .int (nI d), .ref sy, .ref rt] := by rw [ef65, va_up_ne _ _ n_lo_q65]; exact hf_lo
              have hL_lo : lo ∈ L65 := by rw [eL65]; exact List.mem_cons_of_mem _ hL_lo
              have n_al_q65 : al ≠ q65 := fun z => hn0_q65 (z ▸ hL_al)
              have hf_al : f65 al = eO 0 [.int mo, .ref ed, .int (nI n)] := by rw [ef65, va_up_ne _ _ n_al_q65]; exact hf_al
              have hL_al : al ∈ L65 := by rw [eL65]; exact List.mem_cons_of_mem _ hL_al
              have n_ed_q65 : ed ≠ q65 := fun z => hn0_q65 (z ▸ hL_ed)
              have hf_ed : f65 ed = eQ g 10 el := by rw [ef65, va_up_ne _ _ n_ed_q65]; exact hf_ed
              have hL_ed : ed ∈ L65 := by rw [eL65]; exact List.mem_cons_of_mem _ hL_ed
              have hf_q65 : f65 q65 = eO 1 [.int 0, .int 0] := by rw [ef65]; exact va_up_self _ _ _
              have hL_q65 : q65 ∈ L65 := by rw [eL65]; exact List.mem_cons_self
              have hN : L65.Nodup := by rw [eL65]; exact List.nodup_cons.mpr ⟨hn0_q65, hN⟩
              have hA : ∀ a ∈ L65, AA L s.heap.size a := by rw [eL65]; exact fa_c hA_q65 hA
              have hSub : ∀ a ∈ L, a ∈ L65 := by rw [eL65]; exact fun a h => List.mem_cons_of_mem _ (hSub a h)
              replace hFr : FrN L f f65 [al, ed] := by rw [ef65]; exact hFr.up (Or.inr hn_q65)
              refine W.widen (k := 1) (n := 60 * (1)) (by omega) (by omega) ?_
              refine lv_dup hx hb dX4_sign_68 rfl ?_
              refine lv_iload_n hx hb dX4_sign_69 rfl (lv_at hl 1 rfl) ?_
              refine lv_iload_n hx hb dX4_sign_70 rfl (lv_at hl 2 rfl) ?_
              refine av_I (As := [.int x, .int y]) (rest := [.ref q65, .ref al]) ⟨hx, hb, hml, hown, hts⟩ (m_X0_init l g L65 f65 _ hN _ _ _ _ hL_q65 hf_q65) (cwI 2 hts gX4_sign_X0_init rfl rfl rfl (hts (.initialized RX0) (by decide +kernel)) (hts (.methodLink RX4 80 yX0_init) (by decide +kernel)) (hts (.instanceMethod yX0_init) (by decide +kernel)) rfl (by decide +kernel) ⟨Nat.le_of_ble_eq_true rfl, Nat.le_of_ble_eq_true rfl⟩) hK hDS hP hA hS rfl hl.1 rfl (Nat.le_of_ble_eq_true rfl) dX4_sign_71 ⟨(by show 1 + 1 ≤ 12; omega), (by show 60 * (1) + 60 ≤ 720; omega)⟩ (fun L71 f71 H locs hG71 hr71 hP hS hA => ?_)
              refine W.widen (k := 2) (n := 60 * (2)) (by omega) (by omega) ?_
              obtain ⟨hc71, hq71, hw71⟩ := hr71
              have hf_lo : f71 lo = eO 5 [.ref we, .ref al, .ref rv, .int (nI d), .ref sy, .ref rt] := hw71.get hL_lo hf_lo (nm_c n_lo_q65 (List.not_mem_nil))
              have hf_al : f71 al = eO 0 [.int mo, .ref ed, .int (nI n)] := hw71.get hL_al hf_al (nm_c n_al_q65 (List.not_mem_nil))
              have hf_ed : f71 ed = eQ g 10 el := hw71.get hL_ed hf_ed (nm_c n_ed_q65 (List.not_mem_nil))
              have hL_lo : lo ∈ L71 := hG71.2.1 _ hL_lo
              have hL_al : al ∈ L71 := hG71.2.1 _ hL_al
              have hL_ed : ed ∈ L71 := hG71.2.1 _ hL_ed
              have hL_q65 : q65 ∈ L71 := hG71.2.1 _ hL_q65
              replace hFr : FrN L f f71 [al, ed] := hFr.tr2 hSub hw71 (fa_c (Or.inr hn_q65) fa_n)
              have hN := hG71.1
              have hSub : ∀ a ∈ L, a ∈ L71 := fun a h => hG71.2.1 a (hSub a h)
              have hf_q65 : f71 q65 = eO 1 [.int x, .int y] := hc71
              refine rw_V (As := [.ref q65]) (rest := []) ⟨hx, hb, hml, hown, hts⟩ (m_Jx4a65c_add_9ea2d_b l g L71 f71 _ hN _ _ _ _ _ _ _ _ hL_al hf_al hL_ed hf_ed hL_q65 hf_q65 (by omega)) (cwV 1 hts gX4_sign_Jx4a65c_add_9ea2d rfl rfl rfl (by decide +kernel) ⟨Nat.le_of_ble_eq_true rfl, Nat.le_of_ble_eq_true rfl⟩) hK hP hA hA2 hS hL_al hf_al rfl rfl hl.1 rfl (Nat.le_of_ble_eq_true rfl) dX4_sign_74 ⟨(Nat.le_of_ble_eq_true rfl), (Nat.le_of_ble_eq_true rfl)⟩ (fun r74 f74 H locs hr74 hP hS => ?_)
              obtain ⟨hv74, hc74_0, hc74_1, hw74⟩ := hr74
              have hf_lo : f74 lo = eO 5 [.ref we, .ref al, .ref rv, .int (nI d), .ref sy, .ref rt] := hw74.get hf_lo (nm_c n_lo_al (nm_c n_lo_ed (List.not_mem_nil)))
              have hf_q65 : f74 q65 = eO 1 [.int x, .int y] := hw74.get hf_q65 (nm_c n_al_q65.symm (nm_c n_ed_q65.symm (List.not_mem_nil)))
              have hf_al : f74 al = eO 0 [.int (mo + 1), .ref ed, .int (nI (n + 1))] := hc74_0
              have hf_ed : f74 ed = eQ g 10 (va_up el n (some q65)) := hc74_1
              replace hFr : FrN L f f74 [al, ed] := hFr.tr hw74 (fa_c (Or.inl (by simp)) (fa_c (Or.inl (by simp)) fa_n))
              refine lv_pop hx hb dX4_sign_77 rfl ?_
              refine lv_aload_n hx hb dX4_sign_78 rfl (lv_at hl 0 rfl) ?_
              refine pg_get (C := RX4) (T := TX4) (N := 6) hx hb hts hi_X4 hown hK hP hL_lo hf_lo rfl 1 (by decide) (hts (.fieldLink RX4 19 "BarometerLeague" "signs" "Ljava/util/ArrayList;") (by decide +kernel)) (fun _ h9 => h9) rfl dX4_sign_79 ?_
              refine ro_V (As := []) (rest := []) ⟨hx, hb, hml, hown, hts⟩ (m_Jx4a65c_size_8abf5 l g L71 f74 _ _ _ _ hL_al hf_al) (cwV 0 hts gX4_sign_Jx4a65c_size_8abf5 rfl rfl rfl (by decide +kernel) ⟨Nat.le_of_ble_eq_true rfl, Nat.le_of_ble_eq_true rfl⟩) hK hP hL_al hf_al rfl rfl hl.1 rfl (Nat.le_of_ble_eq_true rfl) dX4_sign_82 ⟨(Nat.le_of_ble_eq_true rfl), (Nat.le_of_ble_eq_true rfl)⟩ (fun r82 hr82 => ?_)
              have hr82 : r82 = nI (n + 1) := hr82
              subst hr82
              refine lv_iconst (v := 1) hx hb dX4_sign_85 (by decide) ?_
              refine lv_isub hx hb dX4_sign_86 ?_
              refine lv_topi (fun v86 ev86 => ?_)
              exact hend (v86) L71 f74 _ _ _ _ _ _ ⟨hN, hSub, hA⟩ (⟨by rw [ev86]; exact nI_pred n, by omega, hx6, hy6, q65, ed, _, hn_q65, hL_q65, Or.inl rfl, hf_al, hSg.more hSub hFr h0_al hL_ed h0_ed hf_ed hL_q65 hf_q65, hFr⟩) hP hS rfl (Nat.le_of_ble_eq_true rfl) (Nat.le_of_ble_eq_true rfl) dX4_sign_87
          · skip
            have c48 : ¬ n < 8 := fun h => c48 ((nI_ltI (a := n) (b := 8) (by omega) (by omega)).mpr h)
            exact hthr "java/lang/IllegalStateException" "there are 8 signs" 58 7 73 75 77 _ _ _ _ 51 _ (Or.inr ⟨rfl, le_in (k := 5) (by omega) c1 c6, le_in (k := 60) (by omega) c20 c26, by omega⟩) hP hS (Nat.le_of_ble_eq_true rfl) (Nat.le_of_ble_eq_true rfl) (by decide +kernel) rfl rfl (hts (.classLink RX4 73 "java/lang/IllegalStateException") (by decide +kernel)) (hts (.initialized "java/lang/IllegalStateException") (by decide +kernel)) (by decide +kernel) (by decide +kernel) (by decide +kernel) hl.1 ⟨dX4_sign_51, dX4_sign_54, dX4_sign_55, dX4_sign_57, dX4_sign_60⟩
        · skip
          exact hthr "java/lang/IllegalArgumentException" "the number of a sign is 0 to 60" 57 6 42 67 46 _ _ _ _ 29 _ (Or.inl ⟨rfl, (by rw [show inB y 61 = false from le_out2 (k := 60) (by omega) c26, Bool.and_false])⟩) hP hS (Nat.le_of_ble_eq_true rfl) (Nat.le_of_ble_eq_true rfl) (by decide +kernel) rfl rfl (hts (.classLink RX4 42 "java/lang/IllegalArgumentException") (by decide +kernel)) (hts (.initialized "java/lang/IllegalArgumentException") (by decide +kernel)) (by decide +kernel) (by decide +kernel) (by decide +kernel) hl.1 ⟨dX4_sign_29, dX4_sign_32, dX4_sign_33, dX4_sign_35, dX4_sign_38⟩
    · skip
      exact hthr "java/lang/IllegalArgumentException" "the kinds of signs are 0 to 5" 57 5 42 65 46 _ _ _ _ 9 _ (Or.inl ⟨rfl, (by rw [show inB x 6 = false from le_out2 (k := 5) (by omega) c6]; rfl)⟩) hP hS (Nat.le_of_ble_eq_true rfl) (Nat.le_of_ble_eq_true rfl) (by decide +kernel) rfl rfl (hts (.classLink RX4 42 "java/lang/IllegalArgumentException") (by decide +kernel)) (hts (.initialized "java/lang/IllegalArgumentException") (by decide +kernel)) (by decide +kernel) (by decide +kernel) (by decide +kernel) hl.1 ⟨dX4_sign_9, dX4_sign_12, dX4_sign_13, dX4_sign_15, dX4_sign_18⟩
