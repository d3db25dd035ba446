set_option maxHeartbeats 4000000 in
set_option maxRecDepth 100000 in
theorem m_X2_get (l : Launch) (hst : l.stackTraces = false) (g : GG) (L : List Nat) (f : Nat → va_E) (sz : Nat) (hN : L.Nodup) (rh pa n cap : Nat) (pl : Nat → Option Nat) (ad aw : Nat → Nat) (v : Int32) (hL_rh : rh ∈ L) (hf_rh : f rh = eO 3 [.ref pa, .int (nI n)]) (hL_pa : pa ∈ L) (hf_pa : f pa = eV g cap pl) (hcap : cap ≤ 20) (hn : n ≤ cap) (hpl : ∀ v, v < cap → pl v = some (ad v)) : TR l g yX2_get wsX2_get 6 90 1 6 L f sz [.ref rh, .int v] (fun a => ∃ j, j < n ∧ v = nI j ∧ a = ad j) (fun E => E = "java/lang/IndexOutOfBoundsException" ∧ inB v n = false) := by
  refine TR.start (cc := cX2_get) (maxL := 2) (ret := (.object "BarometerLeague$Village")) hst (by decide) rfl (by simp [lg_sl, Value.category]) (by decide) (by decide) (Or.inl ⟨_, rfl⟩) ?_
  intro p e s m args below meth c Q ls hx hb hml hts hown hS hP hK hZ hl hend hthr hprop
  have hA : ∀ a ∈ L, AA L s.heap.size a := fun _ h => Or.inl h
  have hA2 : ∀ q, s.heap.size ≤ q → AA L s.heap.size q := fun _ h => Or.inr h
  have hl : lv_has ls 2 [(0, .ref rh), (1, .int v)] := hl
  have hi_X2 : ∀ w ∈ u_ws RX2 TX2 2, w ∈ wsX2_get := by decide +kernel
  have hFr : Fr f f [] := Fr.rf
  have n_rh_pa : rh ≠ pa := ne_e hf_rh hf_pa (by simp)
  have h0f_rh := hf_rh
  have h0f_pa := hf_pa
  refine lv_iload_n hx hb dX2_get_0 rfl (lv_at hl 1 rfl) ?_
  refine lv_if_lt (tgt := 12) hx hb dX2_get_1 (by decide) (fun c1 => ?_) (fun c1 => ?_)
  · skip
    exact hthr "java/lang/IndexOutOfBoundsException" "there is no such village" 56 2 28 30 32 _ _ _ _ 12 _ (⟨rfl, decide_eq_false (fun h => Int32.not_lt.mpr h.1 c1)⟩) hP hS (Nat.le_of_ble_eq_true rfl) (Nat.le_of_ble_eq_true rfl) (by decide +kernel) rfl rfl (hts (.classLink RX2 28 "java/lang/IndexOutOfBoundsException") (by decide +kernel)) (hts (.initialized "java/lang/IndexOutOfBoundsException") (by decide +kernel)) (by decide +kernel) (by decide +kernel) (by decide +kernel) hl.1 ⟨dX2_get_12, dX2_get_15, dX2_get_16, dX2_get_18, dX2_get_21⟩
  · skip
    refine lv_iload_n hx hb dX2_get_4 rfl (lv_at hl 1 rfl) ?_
    refine lv_aload_n hx hb dX2_get_5 rfl (lv_at hl 0 rfl) ?_
    refine pg_get (C := RX2) (T := TX2) (N := 2) hx hb hts hi_X2 hown hK hP hL_rh hf_rh rfl 1 (by decide) (hts (.fieldLink RX2 24 "BarometerLeague$VillageRow" "size" "I") (by decide +kernel)) (fun _ h9 => h9) rfl dX2_get_6 ?_
    refine lv_icmp_lt (tgt := 22) hx hb dX2_get_9 (by decide) (fun c9 => ?_) (fun c9 => ?_)
    · skip
      obtain ⟨j, hj, rfl⟩ : ∃ j, j < n ∧ v = nI j := inB_of (decide_eq_true ⟨Int32.not_lt.mp c1, c9⟩) (by omega)
      refine lv_aload_n hx hb dX2_get_22 rfl (lv_at hl 0 rfl) ?_
      refine pg_get (C := RX2) (T := TX2) (N := 2) hx hb hts hi_X2 hown hK hP hL_rh hf_rh rfl 0 (by decide) (hts (.fieldLink RX2 15 "BarometerLeague$VillageRow" "places" "[LBarometerLeague$Village;") (by decide +kernel)) (fun _ h9 => h9) rfl dX2_get_23 ?_
      refine lv_iload_n hx hb dX2_get_26 rfl (lv_at hl 1 rfl) ?_
      refine pn_vald (j := j) hx hb hK hP hL_pa hf_pa rfl (by omega) (Nat.lt_of_lt_of_le (m := 100) (by omega) (by omega)) (hpl j (by omega)) dX2_get_27 ?_
      exact hend (ad j) _ _ _ _ _ _ (⟨j, hj, rfl, rfl⟩) hP hS (Nat.le_of_ble_eq_true rfl) (Nat.le_of_ble_eq_true rfl) dX2_get_28
    · skip
      exact hthr "java/lang/IndexOutOfBoundsException" "there is no such village" 56 2 28 30 32 _ _ _ _ 12 _ (⟨rfl, decide_eq_false (fun h => c9 h.2)⟩) hP hS (Nat.le_of_ble_eq_true rfl) (Nat.le_of_ble_eq_true rfl) (by decide +kernel) rfl rfl (hts (.classLink RX2 28 "java/lang/IndexOutOfBoundsException") (by decide +kernel)) (hts (.initialized "java/lang/IndexOutOfBoundsException") (by decide +kernel)) (by decide +kernel) (by decide +kernel) (by decide +kernel) hl.1 ⟨dX2_get_12, dX2_get_15, dX2_get_16, dX2_get_18, dX2_get_21⟩

set_option maxHeartbeats 4000000 in
set_option maxRecDepth 100000 in
theorem m_X4_requireTableDay (l : Launch) (hst : l.stackTraces = false) (g : GG) (L : List Nat) (f : Nat → va_E) (sz : Nat) (hN : L.Nodup) (x : Int32) : TV l g yX4_requireTableDay wsX4_requireTableDay 6 90 1 6 L f sz [.int x] (fun f2 => inB x 12 = true ∧ f2 = f) (fun E => E = "java/lang/IndexOutOfBoundsException" ∧ inB x 12 = false) := by
  refine TV.start (cc := cX4_requireTableDay) (maxL := 1) hst (by decide) rfl (by simp [lg_sl, Value.category]) (by decide) (by decide) ?_
  intro p e s m args below meth c Q ls hx hb hml hts hown hS hP hK hZ hl hend hthr hprop
  have hA : ∀ a ∈ L, AA L s.heap.size a := fun _ h => Or.inl h
  have hA2 : ∀ q, s.heap.size ≤ q → AA L s.heap.size q := fun _ h => Or.inr h
  have hl : lv_has ls 1 [(0, .int x)] := hl
  have hFr : Fr f f [] := Fr.rf
  refine lv_iload_n hx hb dX4_requireTableDay_0 rfl (lv_at hl 0 rfl) ?_
  refine lv_if_lt (tgt := 10) hx hb dX4_requireTableDay_1 (by decide) (fun c1 => ?_) (fun c1 => ?_)
  · skip
    exact hthr "java/lang/IndexOutOfBoundsException" "the day of the table is 0 to 11" 56 3 180 245 184 _ _ _ _ 10 _ (⟨rfl, decide_eq_false (fun h => Int32.not_lt.mpr h.1 c1)⟩) hP hS (Nat.le_of_ble_eq_true rfl) (Nat.le_of_ble_eq_true rfl) (by decide +kernel) rfl rfl (hts (.classLink RX4 180 "java/lang/IndexOutOfBoundsException") (by decide +kernel)) (hts (.initialized "java/lang/IndexOutOfBoundsException") (by decide +kernel)) (by decide +kernel) (by decide +kernel) (by decide +kernel) hl.1 ⟨dX4_requireTableDay_10, dX4_requireTableDay_13, dX4_requireTableDay_14, dX4_requireTableDay_16, dX4_requireTableDay_19⟩
  · skip
    refine lv_iload_n hx hb dX4_requireTableDay_4 rfl (lv_at hl 0 rfl) ?_
    refine lv_bipush (v := 12) hx hb dX4_requireTableDay_5 (by decide) ?_
    refine lv_icmp_lt (tgt := 20) hx hb dX4_requireTableDay_7 (by decide) (fun c7 => ?_) (fun c7 => ?_)
    · skip
      exact hend f _ _ _ _ _ _ (⟨decide_eq_true ⟨Int32.not_lt.mp c1, c7⟩, rfl⟩) hP hS (Nat.le_of_ble_eq_true rfl) (Nat.le_of_ble_eq_true rfl) dX4_requireTableDay_20
    · skip
      exact hthr "java/lang/IndexOutOfBoundsException" "the day of the table is 0 to 11" 56 3 180 245 184 _ _ _ _ 10 _ (⟨rfl, decide_eq_false (fun h => c7 h.2)⟩) hP hS (Nat.le_of_ble_eq_true rfl) (Nat.le_of_ble_eq_true rfl) (by decide +kernel) rfl rfl (hts (.classLink RX4 180 "java/lang/IndexOutOfBoundsException") (by decide +kernel)) (hts (.initialized "java/lang/IndexOutOfBoundsException") (by decide +kernel)) (by decide +kernel) (by decide +kernel) (by decide +kernel) hl.1 ⟨dX4_requireTableDay_10, dX4_requireTableDay_13, dX4_requireTableDay_14, dX4_requireTableDay_16, dX4_requireTableDay_19⟩

set_option maxHeartbeats 4000000 in
set_option maxRecDepth 100000 in
theorem m_X4_requireTwo (l : Launch) (hst : l.stackTraces = false) (g : GG) (L : List Nat) (f : Nat → va_E) (sz : Nat) (hN : L.Nodup) (a b : Int32) : TV l g yX4_requireTwo wsX4_requireTwo 6 90 1 6 L f sz [.int a, .int b] (fun f2 => ¬ a = b ∧ f2 = f) (fun E => E = "java/lang/IllegalArgumentException" ∧ a = b) := by
  refine TV.start (cc := cX4_requireTwo) (maxL := 2) hst (by decide) rfl (by simp [lg_sl, Value.category]) (by decide) (by decide) ?_
  intro p e s m args below meth c Q ls hx hb hml hts hown hS hP hK hZ hl hend hthr hprop
  have hA : ∀ a ∈ L, AA L s.heap.size a := fun _ h => Or.inl h
  have hA2 : ∀ q, s.heap.size ≤ q → AA L s.heap.size q := fun _ h => Or.inr h
  have hl : lv_has ls 2 [(0, .int a), (1, .int b)] := hl
  have hFr : Fr f f [] := Fr.rf
  refine lv_iload_n hx hb dX4_requireTwo_0 rfl (lv_at hl 0 rfl) ?_
  refine lv_iload_n hx hb dX4_requireTwo_1 rfl (lv_at hl 1 rfl) ?_
  refine lv_icmp_ne (tgt := 15) hx hb dX4_requireTwo_2 (by decide) (fun c2 => ?_) (fun c2 => ?_)
  · skip
    exact hend f _ _ _ _ _ _ (⟨c2, rfl⟩) hP hS (Nat.le_of_ble_eq_true rfl) (Nat.le_of_ble_eq_true rfl) dX4_requireTwo_15
  · skip
    exact hthr "java/lang/IllegalArgumentException" "both villages are the same" 57 10 42 249 46 _ _ _ _ 5 _ (⟨rfl, c2⟩) hP hS (Nat.le_of_ble_eq_true rfl) (Nat.le_of_ble_eq_true rfl) (by decide +kernel) rfl rfl (hts (.classLink RX4 42 "java/lang/IllegalArgumentException") (by decide +kernel)) (hts (.initialized "java/lang/IllegalArgumentException") (by decide +kernel)) (by decide +kernel) (by decide +kernel) (by decide +kernel) hl.1 ⟨dX4_requireTwo_5, dX4_requireTwo_8, dX4_requireTwo_9, dX4_requireTwo_11, dX4_requireTwo_14⟩

set_option maxHeartbeats 4000000 in
set_option maxRecDepth 100000 in
theorem m_X4_requireWhat (l : Launch) (hst : l.stackTraces = false) (g : GG) (L : List Nat) (f : Nat → va_E) (sz : Nat) (hN : L.Nodup) (x lo hi : Int32) : TV l g yX4_requireWhat wsX4_requireWhat 6 90 1 6 L f sz [.int x, .int lo, .int hi] (fun f2 => decide (lo ≤ x ∧ x ≤ hi) = true ∧ f2 = f) (fun E => E = "java/lang/IndexOutOfBoundsException" ∧ decide (lo ≤ x ∧ x ≤ hi) = false) := by
  refine TV.start (cc := cX4_requireWhat) (maxL := 3) hst (by decide) rfl (by simp [lg_sl, Value.category]) (by decide) (by decide) ?_
  intro p e s m args below meth c Q ls hx hb hml hts hown hS hP hK hZ hl hend hthr hprop
  have hA : ∀ a ∈ L, AA L s.heap.size a := fun _ h => Or.inl h
  have hA2 : ∀ q, s.heap.size ≤ q → AA L s.heap.size q := fun _ h => Or.inr h
  have hl : lv_has ls 3 [(0, .int x), (1, .int lo), (2, .int hi)] := hl
  have hFr : Fr f f [] := Fr.rf
  refine lv_iload_n hx hb dX4_requireWhat_0 rfl (lv_at hl 0 rfl) ?_
  refine lv_iload_n hx hb dX4_requireWhat_1 rfl (lv_at hl 1 rfl) ?_
  refine lv_icmp_lt (tgt := 10) hx hb dX4_requireWhat_2 (by decide) (fun c2 => ?_) (fun c2 => ?_)
  · skip
    exact hthr "java/lang/IndexOutOfBoundsException" "there is nothing of this number to tell" 56 0 180 251 184 _ _ _ _ 10 _ (⟨rfl, decide_eq_false (fun h => Int32.not_lt.mpr h.1 c2)⟩) hP hS (Nat.le_of_ble_eq_true rfl) (Nat.le_of_ble_eq_true rfl) (by decide +kernel) rfl rfl (hts (.classLink RX4 180 "java/lang/IndexOutOfBoundsException") (by decide +kernel)) (hts (.initialized "java/lang/IndexOutOfBoundsException") (by decide +kernel)) (by decide +kernel) (by decide +kernel) (by decide +kernel) hl.1 ⟨dX4_requireWhat_10, dX4_requireWhat_13, dX4_requireWhat_14, dX4_requireWhat_16, dX4_requireWhat_19⟩
  · skip
    refine lv_iload_n hx hb dX4_requireWhat_5 rfl (lv_at hl 0 rfl) ?_
    refine lv_iload_n hx hb dX4_requireWhat_6 rfl (lv_at hl 2 rfl) ?_
    refine lv_icmp_le (tgt := 20) hx hb dX4_requireWhat_7 (by decide) (fun c7 => ?_) (fun c7 => ?_)
    · skip
      exact hend f _ _ _ _ _ _ (⟨decide_eq_true ⟨Int32.not_lt.mp c2, c7⟩, rfl⟩) hP hS (Nat.le_of_ble_eq_true rfl) (Nat.le_of_ble_eq_true rfl) dX4_requireWhat_20
    · skip
      exact hthr "java/lang/IndexOutOfBoundsException" "there is nothing of this number to tell" 56 0 180 251 184 _ _ _ _ 10 _ (⟨rfl, decide_eq_false (fun h => c7 h.2)⟩) hP hS (Nat.le_of_ble_eq_true rfl) (Nat.le_of_ble_eq_true rfl) (by decide +kernel) rfl rfl (hts (.classLink RX4 180 "java/lang/IndexOutOfBoundsException") (by decide +kernel)) (hts (.initialized "java/lang/IndexOutOfBoundsException") (by decide +kernel)) (by decide +kernel) (by decide +kernel) (by decide +kernel) hl.1 ⟨dX4_requireWhat_10, dX4_requireWhat_13, dX4_requireWhat_14, dX4_requireWhat_16, dX4_requireWhat_19⟩

set_option maxHeartbeats 4000000 in
set_option maxRecDepth 100000 in
theorem m_X4_requireDays (l : Launch) (hst : l.stackTraces = false) (g : GG) (L : List Nat) (f : Nat → va_E) (sz : Nat) (hN : L.Nodup) (x hi : Int32) : TV l g yX4_requireDays wsX4_requireDays 6 90 1 6 L f sz [.int x, .int hi] (fun f2 => decide (1 ≤ x ∧ x ≤ hi) = true ∧ f2 = f) (fun E => E = "java/lang/IllegalArgumentException" ∧ decide (1 ≤ x ∧ x ≤ hi) = false) := by
  refine TV.start (cc := cX4_requireDays) (maxL := 2) hst (by decide) rfl (by simp [lg_sl, Value.category]) (by decide) (by decide) ?_
  intro p e s m args below meth c Q ls hx hb hml hts hown hS hP hK hZ hl hend hthr hprop
  have hA : ∀ a ∈ L, AA L s.heap.size a := fun _ h => Or.inl h
  have hA2 : ∀ q, s.heap.size ≤ q → AA L s.heap.size q := fun _ h => Or.inr h
  have hl : lv_has ls 2 [(0, .int x), (1, .int hi)] := hl
  have hFr : Fr f f [] := Fr.rf
  refine lv_iload_n hx hb dX4_requireDays_0 rfl (lv_at hl 0 rfl) ?_
  refine lv_iconst (v := 1) hx hb dX4_requireDays_1 (by decide) ?_
  refine lv_icmp_lt (tgt := 10) hx hb dX4_requireDays_2 (by decide) (fun c2 => ?_) (fun c2 => ?_)
  · skip
    exact hthr "java/lang/IllegalArgumentException" "the number of days is out of range" 57 14 42 253 46 _ _ _ _ 10 _ (⟨rfl, decide_eq_false (fun h => Int32.not_lt.mpr h.1 c2)⟩) hP hS (Nat.le_of_ble_eq_true rfl) (Nat.le_of_ble_eq_true rfl) (by decide +kernel) rfl rfl (hts (.classLink RX4 42 "java/lang/IllegalArgumentException") (by decide +kernel)) (hts (.initialized "java/lang/IllegalArgumentException") (by decide +kernel)) (by decide +kernel) (by decide +kernel) (by decide +kernel) hl.1 ⟨dX4_requireDays_10, dX4_requireDays_13, dX4_requireDays_14, dX4_requireDays_16, dX4_requireDays_19⟩
  · skip
    refine lv_iload_n hx hb dX4_requireDays_5 rfl (lv_at hl 0 rfl) ?_
    refine lv_iload_n hx hb dX4_requireDays_6 rfl (lv_at hl 1 rfl) ?_
    refine lv_icmp_le (tgt := 20) hx hb dX4_requireDays_7 (by decide) (fun c7 => ?_) (fun c7 => ?_)
    · skip
      exact hend f _ _ _ _ _ _ (⟨decide_eq_true ⟨Int32.not_lt.mp c2, c7⟩, rfl⟩) hP hS (Nat.le_of_ble_eq_true rfl) (Nat.le_of_ble_eq_true rfl) dX4_requireDays_20
    · skip
      exact hthr "java/lang/IllegalArgumentException" "the number of days is out of range" 57 14 42 253 46 _ _ _ _ 10 _ (⟨rfl, decide_eq_false (fun h => c7 h.2)⟩) hP hS (Nat.le_of_ble_eq_true rfl) (Nat.le_of_ble_eq_true rfl) (by decide +kernel) rfl rfl (hts (.classLink RX4 42 "java/lang/IllegalArgumentException") (by decide +kernel)) (hts (.initialized "java/lang/IllegalArgumentException") (by decide +kernel)) (by decide +kernel) (by decide +kernel) (by decide +kernel) hl.1 ⟨dX4_requireDays_10, dX4_requireDays_13, dX4_requireDays_14, dX4_requireDays_16, dX4_requireDays_19⟩

set_option maxHeartbeats 4000000 in
set_option maxRecDepth 100000 in
theorem m_Jx4a65c_size_8abf5 (l : Launch) (g : GG) (L : List Nat) (f : Nat → va_E) (al ed n : Nat) (mo : Int32) (hL_al : al ∈ L) (hf_al : f al = eO 0 [.int mo, .ref ed, .int (nI n)]) : RO l g yJx4a65c_size_8abf5 wsJx4a65c_size_8abf5 0 0 L f [.ref al] (fun r => r = nI n) := by
  refine RO.start (cc := cJx4a65c_size_8abf5) (maxL := 1) (ret := .int) (by decide +kernel) rfl (by simp [lg_sl, Value.category]) ?_
  intro p e s m args below meth c Q ls hx hb hml hts hown hP hK hl hend
  have hl : lv_has ls 1 [(0, .ref al)] := hl
  have hi_Jx4a65c : ∀ w ∈ u_ws RJx4a65c TJx4a65c 3, w ∈ wsJx4a65c_size_8abf5 := by decide +kernel
  refine lv_aload_n hx hb dJx4a65c_size_8abf5_0 rfl (lv_at hl 0 rfl) ?_
  refine pg_get (C := RJx4a65c) (T := TJx4a65c) (N := 3) hx hb hts hi_Jx4a65c hown hK hP hL_al hf_al rfl 2 (by decide) (hts (.fieldLink RJx4a65c 48 "java/util/ArrayList" "size" "I") (by decide +kernel)) (fun _ h9 => h9) rfl dJx4a65c_size_8abf5_1 ?_
  exact hend (nI n) _ _ (rfl) rfl dJx4a65c_size_8abf5_4

set_option maxHeartbeats 4000000 in
set_option maxRecDepth 100000 in
theorem m_Jx4a65c_elementData_915e3 (l : Launch) (g : GG) (L : List Nat) (f : Nat → va_E) (al ed n so j : Nat) (mo : Int32) (el : Nat → Option Nat) (hL_al : al ∈ L) (hf_al : f al = eO 0 [.int mo, .ref ed, .int (nI n)]) (hL_ed : ed ∈ L) (hf_ed : f ed = eQ g 10 el) (hj : j < 10) (hel : el j = some so) : RQ l g yJx4a65c_elementData_915e3 wsJx4a65c_elementData_915e3 0 0 L f [.ref al, .int (nI j)] so := by
  refine RQ.start (cc := cJx4a65c_elementData_915e3) (maxL := 2) (ret := (.object "java/lang/Object")) (by decide +kernel) rfl (by simp [lg_sl, Value.category]) (Or.inl ⟨_, rfl⟩) ?_
  intro p e s m args below meth c Q ls hx hb hml hts hown hP hK hl hend
  have hl : lv_has ls 2 [(0, .ref al), (1, .int (nI j))] := hl
  have hi_Jx4a65c : ∀ w ∈ u_ws RJx4a65c TJx4a65c 3, w ∈ wsJx4a65c_elementData_915e3 := by decide +kernel
  have n_al_ed : al ≠ ed := ne_e hf_al hf_ed (by simp)
  refine lv_aload_n hx hb dJx4a65c_elementData_915e3_0 rfl (lv_at hl 0 rfl) ?_
  refine pg_get (C := RJx4a65c) (T := TJx4a65c) (N := 3) hx hb hts hi_Jx4a65c hown hK hP hL_al hf_al rfl 1 (by decide) (hts (.fieldLink RJx4a65c 9 "java/util/ArrayList" "elementData" "[Ljava/lang/Object;") (by decide +kernel)) (fun _ h9 => h9) rfl dJx4a65c_elementData_915e3_1 ?_
  refine lv_iload_n hx hb dJx4a65c_elementData_915e3_4 rfl (lv_at hl 1 rfl) ?_
  refine pn_qald (j := j) hx hb hK hP hL_ed hf_ed rfl (by omega) (Nat.lt_of_lt_of_le (m := 100) (by omega) (by omega)) hel dJx4a65c_elementData_915e3_5 ?_
  exact hend _ _ dJx4a65c_elementData_915e3_6

set_option maxHeartbeats 4000000 in
set_option maxRecDepth 100000 in
theorem m_J3_checkIndex_8e157 (l : Launch) (g : GG) (L : List Nat) (f : Nat → va_E) (j n : Nat) (hj : j < n) (hn : n < 1000) : RO l g yJ3_checkIndex_8e157 wsJ3_checkIndex_8e157 0 0 L f [.int (nI j), .int (nI n), .null] (fun r => r = nI j) := by
  refine RO.start (cc := cJ3_checkIndex_8e157) (maxL := 3) (ret := .int) (by decide +kernel) rfl (by simp [lg_sl, Value.category]) ?_
  intro p e s m args below meth c Q ls hx hb hml hts hown hP hK hl hend
  have hl : lv_has ls 3 [(0, .int (nI j)), (1, .int (nI n)), (2, .null)] := hl
  refine lv_iload_n hx hb dJ3_checkIndex_8e157_0 rfl (lv_at hl 0 rfl) ?_
  refine lv_if_lt (tgt := 9) hx hb dJ3_checkIndex_8e157_1 (by decide) (fun c1 => by exfalso; have c1 := (nI_ltI (a := j) (b := 0) (by omega) (by omega)).mp (show nI j < nI 0 from c1); omega) (fun c1 => ?_)
  have c1 : ¬ j < 0 := fun h => c1 ((nI_ltI (a := j) (b := 0) (by omega) (by omega)).mpr h)
  refine lv_iload_n hx hb dJ3_checkIndex_8e157_4 rfl (lv_at hl 0 rfl) ?_
  refine lv_iload_n hx hb dJ3_checkIndex_8e157_5 rfl (lv_at hl 1 rfl) ?_
  refine lv_icmp_lt (tgt := 16) hx hb dJ3_checkIndex_8e157_6 (by decide) (fun c6 => ?_) (fun c6 => by exfalso; exact c6 ((nI_ltI (a := j) (b := n) (by omega) (by omega)).mpr (by omega)))
  have c6 : j < n := (nI_ltI (a := j) (b := n) (by omega) (by omega)).mp (show nI j < nI n from c6)
  refine lv_iload_n hx hb dJ3_checkIndex_8e157_16 rfl (lv_at hl 0 rfl) ?_
  exact hend (nI j) _ _ (rfl) rfl dJ3_checkIndex_8e157_17

set_option maxHeartbeats 4000000 in
set_option maxRecDepth 100000 in
theorem m_J15_checkIndex_7cf53 (l : Launch) (g : GG) (L : List Nat) (f : Nat → va_E) (j n : Nat) (hj : j < n) (hn : n < 1000) : RO l g yJ15_checkIndex_7cf53 wsJ15_checkIndex_7cf53 1 22 L f [.int (nI j), .int (nI n)] (fun r => r = nI j) := by
  refine RO.start (cc := cJ15_checkIndex_7cf53) (maxL := 2) (ret := .int) (by decide +kernel) rfl (by simp [lg_sl, Value.category]) ?_
  intro p e s m args below meth c Q ls hx hb hml hts hown hP hK hl hend
  have hl : lv_has ls 2 [(0, .int (nI j)), (1, .int (nI n))] := hl
  refine lv_iload_n hx hb dJ15_checkIndex_7cf53_0 rfl (lv_at hl 0 rfl) ?_
  refine lv_iload_n hx hb dJ15_checkIndex_7cf53_1 rfl (lv_at hl 1 rfl) ?_
  refine lv_null hx hb dJ15_checkIndex_7cf53_2 ?_
  refine ro_S (As := [.int (nI j), .int (nI n), .null]) (rest := []) ⟨hx, hb, hml, hown, hts⟩ (m_J3_checkIndex_8e157 l g L f j n hj hn) (va_cwS 3 hts gJ15_checkIndex_7cf53_J3_checkIndex_8e157 rfl rfl rfl (by decide +kernel) ⟨Nat.le_of_ble_eq_true rfl, Nat.le_of_ble_eq_true rfl⟩) hK hP rfl hl.1 rfl (Nat.le_of_ble_eq_true rfl) dJ15_checkIndex_7cf53_3 ⟨Nat.zero_le _, Nat.zero_le _⟩ (fun r3 hr3 => ?_)
  exact hend (r3) _ _ (hr3) rfl dJ15_checkIndex_7cf53_6

set_option maxHeartbeats 4000000 in
set_option maxRecDepth 100000 in
theorem m_Jx4a65c_get_915e3 (l : Launch) (g : GG) (L : List Nat) (f : Nat → va_E) (al ed n so j : Nat) (mo : Int32) (el : Nat → Option Nat) (hL_al : al ∈ L) (hf_al : f al = eO 0 [.int mo, .ref ed, .int (nI n)]) (hL_ed : ed ∈ L) (hf_ed : f ed = eQ g 10 el) (hj : j < n) (hn : n ≤ 8) (hel : el j = some so) : RQ l g yJx4a65c_get_915e3 wsJx4a65c_get_915e3 2 43 L f [.ref al, .int (nI j)] so := by
  refine RQ.start (cc := cJx4a65c_get_915e3) (maxL := 2) (ret := (.object "java/lang/Object")) (by decide +kernel) rfl (by simp [lg_sl, Value.category]) (Or.inl ⟨_, rfl⟩) ?_
  intro p e s m args below meth c Q ls hx hb hml hts hown hP hK hl hend
  have hl : lv_has ls 2 [(0, .ref al), (1, .int (nI j))] := hl
  have hi_Jx4a65c : ∀ w ∈ u_ws RJx4a65c TJx4a65c 3, w ∈ wsJx4a65c_get_915e3 := by decide +kernel
  have n_al_ed : al ≠ ed := ne_e hf_al hf_ed (by simp)
  refine lv_iload_n hx hb dJx4a65c_get_915e3_0 rfl (lv_at hl 1 rfl) ?_
  refine lv_aload_n hx hb dJx4a65c_get_915e3_1 rfl (lv_at hl 0 rfl) ?_
  refine pg_get (C := RJx4a65c) (T := TJx4a65c) (N := 3) hx hb hts hi_Jx4a65c hown hK hP hL_al hf_al rfl 2 (by decide) (hts (.fieldLink RJx4a65c 48 "java/util/ArrayList" "size" "I") (by decide +kernel)) (fun _ h9 => h9) rfl dJx4a65c_get_915e3_2 ?_
  refine ro_S (As := [.int (nI j), .int (nI n)]) (rest := []) ⟨hx, hb, hml, hown, hts⟩ (m_J15_checkIndex_7cf53 l g L f j n hj (by omega)) (va_cwS 2 hts gJx4a65c_get_915e3_J15_checkIndex_7cf53 rfl rfl rfl (by decide +kernel) ⟨Nat.le_of_ble_eq_true rfl, Nat.le_of_ble_eq_true rfl⟩) hK hP rfl hl.1 rfl (Nat.le_of_ble_eq_true rfl) dJx4a65c_get_915e3_5 ⟨Nat.zero_le _, Nat.zero_le _⟩ (fun r5 hr5 => ?_)
  refine lv_pop hx hb dJx4a65c_get_915e3_8 rfl ?_
  refine lv_aload_n hx hb dJx4a65c_get_915e3_9 rfl (lv_at hl 0 rfl) ?_
  refine lv_iload_n hx hb dJx4a65c_get_915e3_10 rfl (lv_at hl 1 rfl) ?_
  refine rq_V (As := [.int (nI j)]) (rest := []) ⟨hx, hb, hml, hown, hts⟩ (m_Jx4a65c_elementData_915e3 l g L f _ _ _ _ _ _ _ hL_al hf_al hL_ed hf_ed (by omega) hel) (cwV 1 hts gJx4a65c_get_915e3_Jx4a65c_elementData_915e3 rfl rfl rfl (by decide +kernel) ⟨Nat.le_of_ble_eq_true rfl, Nat.le_of_ble_eq_true rfl⟩) hK hP hL_al hf_al rfl rfl hl.1 rfl (Nat.le_of_ble_eq_true rfl) dJx4a65c_get_915e3_11 ⟨Nat.zero_le _, Nat.zero_le _⟩ ?_
  exact hend _ _ dJx4a65c_get_915e3_14

set_option maxHeartbeats 4000000 in
set_option maxRecDepth 100000 in
theorem m_X4_requireSign (l : Launch) (hst : l.stackTraces = false) (g : GG) (L : List Nat) (f : Nat → va_E) (sz : Nat) (hN : L.Nodup) (lo we al rv d sy rt : Nat) (ed n : Nat) (mo : Int32) (x : Int32) (hL_lo : lo ∈ L) (hf_lo : f lo = eO 5 [.ref we, .ref al, .ref rv, .int (nI d), .ref sy, .ref rt]) (hL_al : al ∈ L) (hf_al : f al = eO 0 [.int mo, .ref ed, .int (nI n)]) : TV l g yX4_requireSign wsX4_requireSign 6 90 1 6 L f sz [.ref lo, .int x] (fun f2 => inB x n = true ∧ f2 = f) (fun E => E = "java/lang/IndexOutOfBoundsException" ∧ inB x n = false) := by
  refine TV.start (cc := cX4_requireSign) (maxL := 2) hst (by decide) rfl (by simp [lg_sl, Value.category]) (by decide) (by decide) ?_
  intro p e s m args below meth c Q ls hx hb hml hts hown hS hP hK hZ hl hend hthr hprop
  have hA : ∀ a ∈ L, AA L s.heap.size a := fun _ h => Or.inl h
  have hA2 : ∀ q, s.heap.size ≤ q → AA L s.heap.size q := fun _ h => Or.inr h
  have hl : lv_has ls 2 [(0, .ref lo), (1, .int x)] := hl
  have hi_X4 : ∀ w ∈ u_ws RX4 TX4 6, w ∈ wsX4_requireSign := by decide +kernel
  have hFr : Fr f f [] := Fr.rf
  have n_lo_al : lo ≠ al := ne_e hf_lo hf_al (by simp)
  have h0f_lo := hf_lo
  have h0f_al := hf_al
  refine lv_iload_n hx hb dX4_requireSign_0 rfl (lv_at hl 1 rfl) ?_
  refine lv_if_lt (tgt := 15) hx hb dX4_requireSign_1 (by decide) (fun c1 => ?_) (fun c1 => ?_)
  · skip
    exact hthr "java/lang/IndexOutOfBoundsException" "there is no such sign" 56 1 180 247 184 _ _ _ _ 15 _ (⟨rfl, decide_eq_false (fun h => Int32.not_lt.mpr h.1 c1)⟩) hP hS (Nat.le_of_ble_eq_true rfl) (Nat.le_of_ble_eq_true rfl) (by decide +kernel) rfl rfl (hts (.classLink RX4 180 "java/lang/IndexOutOfBoundsException") (by decide +kernel)) (hts (.initialized "java/lang/IndexOutOfBoundsException") (by decide +kernel)) (by decide +kernel) (by decide +kernel) (by decide +kernel) hl.1 ⟨dX4_requireSign_15, dX4_requireSign_18, dX4_requireSign_19, dX4_requireSign_21, dX4_requireSign_24⟩
  · skip
    refine lv_iload_n hx hb dX4_requireSign_4 rfl (lv_at hl 1 rfl) ?_
    refine lv_aload_n hx hb dX4_requireSign_5 rfl (lv_at hl 0 rfl) ?_
    refine pg_get (C := RX4) (T := TX4) (N := 6) hx hb hts hi_X4 hown hK hP hL_lo hf_lo rfl 1 (by decide) (hts (.fieldLink RX4 19 "BarometerLeague" "signs" "Ljava/util/ArrayList;") (by decide +kernel)) (fun _ h9 => h9) rfl dX4_requireSign_6 ?_
    refine ro_V (As := []) (rest := [.int x]) ⟨hx, hb, hml, hown, hts⟩ (m_Jx4a65c_size_8abf5 l g L f _ _ _ _ hL_al hf_al) (cwV 0 hts gX4_requireSign_Jx4a65c_size_8abf5 rfl rfl rfl (by decide +kernel) ⟨Nat.le_of_ble_eq_true rfl, Nat.le_of_ble_eq_true rfl⟩) hK hP hL_al hf_al rfl rfl hl.1 rfl (Nat.le_of_ble_eq_true rfl) dX4_requireSign_9 ⟨(Nat.le_of_ble_eq_true rfl), (Nat.le_of_ble_eq_true rfl)⟩ (fun r9 hr9 => ?_)
    have hr9 : r9 = nI n := hr9
    subst hr9
    refine lv_icmp_lt (tgt := 25) hx hb dX4_requireSign_12 (by decide) (fun c12 => ?_) (fun c12 => ?_)
    · skip
      exact hend f _ _ _ _ _ _ (⟨decide_eq_true ⟨Int32.not_lt.mp c1, c12⟩, rfl⟩) hP hS (Nat.le_of_ble_eq_true rfl) (Nat.le_of_ble_eq_true rfl) dX4_requireSign_25
    · skip
      exact hthr "java/lang/IndexOutOfBoundsException" "there is no such sign" 56 1 180 247 184 _ _ _ _ 15 _ (⟨rfl, decide_eq_false (fun h => c12 h.2)⟩) hP hS (Nat.le_of_ble_eq_true rfl) (Nat.le_of_ble_eq_true rfl) (by decide +kernel) rfl rfl (hts (.classLink RX4 180 "java/lang/IndexOutOfBoundsException") (by decide +kernel)) (hts (.initialized "java/lang/IndexOutOfBoundsException") (by decide +kernel)) (by decide +kernel) (by decide +kernel) (by decide +kernel) hl.1 ⟨dX4_requireSign_15, dX4_requireSign_18, dX4_requireSign_19, dX4_requireSign_21, dX4_requireSign_24⟩
