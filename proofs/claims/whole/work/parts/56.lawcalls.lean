set_option maxHeartbeats 4000000 in
set_option maxRecDepth 100000 in
theorem c_setGlass (l : Launch) (g : GG) (L : List Nat) (f : Nat → va_E) (sz : Nat) (hN : L.Nodup) (t : Nat) (lo oj : Nat) (x y : Int32) (w : Nat → Int64) (P : Int32 → (Nat → va_E) → Prop) (xc : String → Prop) (hM : ∀ sz, TW l g yX4_setGlass wsX4_setGlass 7 110 2 12 L f sz [.ref lo, .int x, .int y] P xc) (hLlo : lo ∈ L) {fs : List Value} (hflo : f lo = eO 5 fs) (hLoj : oj ∈ L) (hPoj : ∀ r f1, P r f1 → f1 oj = eJ g 1 w) (hxc : ∀ E, xc E → E = "java/lang/IndexOutOfBoundsException" ∨ E = "java/lang/IllegalArgumentException") : LW l g yL_setGlass wsL_setGlass 8 133 2 12 t L f sz [.ref lo, .int x, .int y, .ref oj] (fun r L2 f2 => (r = 0 ∧ L2 = L ∧ ∃ v f1, P v f1 ∧ f2 = va_up f1 oj (eJ g 1 (fun _ => v.toInt64))) ∨ (∃ E, xc E ∧ L2 = L ∧ f2 = f ∧ ((E = "java/lang/IndexOutOfBoundsException" ∧ r = 1) ∨ (E = "java/lang/IllegalArgumentException" ∧ r = 2)))) := by
  refine LW.start (cc := cL_setGlass) (maxL := 5) (hh := [(0, 10, 13, 13), (0, 10, 17, 15)]) (by decide) rfl (by simp [lg_sl, Value.category]) ?_
  intro p e s m args below meth c Q ls hx hb hml hts hown htab hS hP hK hZ hDS hNC hl hend
  have hl : lv_has ls 5 [(0, .ref lo), (1, .int x), (2, .int y), (3, .ref oj)] := hl
  have hA : ∀ a ∈ L, AA L s.heap.size a := fun _ h => Or.inl h
  refine lv_aload_n hx hb dL_setGlass_0 rfl (lv_at hl 3 rfl) ?_
  refine lv_iconst (v := 0) hx hb dL_setGlass_1 (by decide) ?_
  refine lv_aload_n hx hb dL_setGlass_2 rfl (lv_at hl 0 rfl) ?_
  refine lv_iload_n hx hb dL_setGlass_3 rfl (lv_at hl 1 rfl) ?_
  refine lv_iload_n hx hb dL_setGlass_4 rfl (lv_at hl 2 rfl) ?_
  refine tw_V (As := [.int x, .int y]) (rest := [.int 0, .ref oj]) ⟨hx, hb, hml, hown, hts⟩ (hM _) (cwV 2 hts gL_setGlass_X4_setGlass rfl rfl rfl (by decide +kernel) ⟨Nat.le_of_ble_eq_true rfl, Nat.le_of_ble_eq_true rfl⟩) hK hZ hP hS hLlo hflo rfl rfl hl.1 rfl (Nat.le_of_ble_eq_true rfl) dL_setGlass_5 ⟨Nat.le_of_ble_eq_true rfl, Nat.le_of_ble_eq_true rfl⟩ (fun E ce q9 H locs hxe hP hS hce hcv hcl => ?_) (fun v f1 H locs hr hP hS => ?_)
  · rcases hxc E hxe with rfl | rfl
    · refine vx_catch (name := "java/lang/IndexOutOfBoundsException") hown [] ⟨0, 10, 13, 13⟩ [⟨0, 10, 17, 15⟩] htab (fun _ h => absurd h List.not_mem_nil) (by decide) (by decide) (hts (.classLink RL 13 "java/lang/IndexOutOfBoundsException") (by decide +kernel)) (hK.nest 56 rfl) hce hcv hcl ?_
      refine lv_astore (lv' := [(4, .ref q9), (0, .ref lo), (1, .int x), (2, .int y), (3, .ref oj)]) hx hb dL_setGlass_13 hl (by decide) rfl (fun ls hl => ?_)
      refine lv_iconst (v := 1) hx hb dL_setGlass_15 (by decide) ?_
      exact hend 1 L f _ _ _ _ _ _ (GR.rf hN) (Or.inr ⟨_, hxe, rfl, rfl, Or.inl ⟨rfl, rfl⟩⟩) hP hS (Nat.le_of_ble_eq_true rfl) (Nat.le_of_ble_eq_true rfl) dL_setGlass_16
    · refine vx_catch (name := "java/lang/IllegalArgumentException") hown [⟨0, 10, 13, 13⟩] ⟨0, 10, 17, 15⟩ [] htab (fun z h => (List.mem_cons.mp h).elim (fun e9 => by subst e9; exact Or.inr ⟨by decide, "java/lang/IndexOutOfBoundsException", hts (.classLink RL 13 "java/lang/IndexOutOfBoundsException") (by decide +kernel), hNC.1⟩) (fun h => (fun _ h => absurd h List.not_mem_nil) z h)) (by decide) (by decide) (hts (.classLink RL 15 "java/lang/IllegalArgumentException") (by decide +kernel)) (hK.nest 57 rfl) hce hcv hcl ?_
      refine lv_astore (lv' := [(4, .ref q9), (0, .ref lo), (1, .int x), (2, .int y), (3, .ref oj)]) hx hb dL_setGlass_17 hl (by decide) rfl (fun ls hl => ?_)
      refine lv_iconst (v := 2) hx hb dL_setGlass_19 (by decide) ?_
      exact hend 2 L f _ _ _ _ _ _ (GR.rf hN) (Or.inr ⟨_, hxe, rfl, rfl, Or.inr (⟨rfl, rfl⟩)⟩) hP hS (Nat.le_of_ble_eq_true rfl) (Nat.le_of_ble_eq_true rfl) dL_setGlass_20
  · refine lv_i2l (v := v.toInt64) hx hb dL_setGlass_8 rfl ?_
    refine pj_ast hx hb hK hP hN hA hS hLoj (hPoj _ _ hr) dL_setGlass_9 (fun H locs hP hS => ?_)
    refine lv_goto (tgt := 21) hx hb dL_setGlass_10 (by decide) ?_
    refine lv_iconst (v := 0) hx hb dL_setGlass_21 (by decide) ?_
    exact hend 0 L _ _ _ _ _ _ _ (GR.rf hN) (Or.inl ⟨rfl, rfl, v, f1, hr, rfl⟩) hP hS (Nat.le_of_ble_eq_true rfl) (Nat.le_of_ble_eq_true rfl) dL_setGlass_22
set_option maxHeartbeats 4000000 in
set_option maxRecDepth 100000 in
theorem c_setRain (l : Launch) (g : GG) (L : List Nat) (f : Nat → va_E) (sz : Nat) (hN : L.Nodup) (t : Nat) (lo oj : Nat) (x y : Int32) (w : Nat → Int64) (P : Int32 → (Nat → va_E) → Prop) (xc : String → Prop) (hM : ∀ sz, TW l g yX4_setRain wsX4_setRain 7 110 1 6 L f sz [.ref lo, .int x, .int y] P xc) (hLlo : lo ∈ L) {fs : List Value} (hflo : f lo = eO 5 fs) (hLoj : oj ∈ L) (hPoj : ∀ r f1, P r f1 → f1 oj = eJ g 1 w) (hxc : ∀ E, xc E → E = "java/lang/IndexOutOfBoundsException") : LW l g yL_setRain wsL_setRain 8 133 1 6 t L f sz [.ref lo, .int x, .int y, .ref oj] (fun r L2 f2 => (r = 0 ∧ L2 = L ∧ ∃ v f1, P v f1 ∧ f2 = va_up f1 oj (eJ g 1 (fun _ => (if v = 0 then 0 else 1)))) ∨ (∃ E, xc E ∧ L2 = L ∧ f2 = f ∧ ((E = "java/lang/IndexOutOfBoundsException" ∧ r = 1)))) := by
  refine LW.start (cc := cL_setRain) (maxL := 5) (hh := [(0, 17, 20, 13)]) (by decide) rfl (by simp [lg_sl, Value.category]) ?_
  intro p e s m args below meth c Q ls hx hb hml hts hown htab hS hP hK hZ hDS hNC hl hend
  have hl : lv_has ls 5 [(0, .ref lo), (1, .int x), (2, .int y), (3, .ref oj)] := hl
  have hA : ∀ a ∈ L, AA L s.heap.size a := fun _ h => Or.inl h
  refine lv_aload_n hx hb dL_setRain_0 rfl (lv_at hl 3 rfl) ?_
  refine lv_iconst (v := 0) hx hb dL_setRain_1 (by decide) ?_
  refine lv_aload_n hx hb dL_setRain_2 rfl (lv_at hl 0 rfl) ?_
  refine lv_iload_n hx hb dL_setRain_3 rfl (lv_at hl 1 rfl) ?_
  refine lv_iload_n hx hb dL_setRain_4 rfl (lv_at hl 2 rfl) ?_
  refine tw_V (As := [.int x, .int y]) (rest := [.int 0, .ref oj]) ⟨hx, hb, hml, hown, hts⟩ (hM _) (cwV 2 hts gL_setRain_X4_setRain rfl rfl rfl (by decide +kernel) ⟨Nat.le_of_ble_eq_true rfl, Nat.le_of_ble_eq_true rfl⟩) hK hZ hP hS hLlo hflo rfl rfl hl.1 rfl (Nat.le_of_ble_eq_true rfl) dL_setRain_5 ⟨Nat.le_of_ble_eq_true rfl, Nat.le_of_ble_eq_true rfl⟩ (fun E ce q9 H locs hxe hP hS hce hcv hcl => ?_) (fun v f1 H locs hr hP hS => ?_)
  · obtain rfl := hxc E hxe
    refine vx_catch (name := "java/lang/IndexOutOfBoundsException") hown [] ⟨0, 17, 20, 13⟩ [] htab (fun _ h => absurd h List.not_mem_nil) (by decide) (by decide) (hts (.classLink RL 13 "java/lang/IndexOutOfBoundsException") (by decide +kernel)) (hK.nest 56 rfl) hce hcv hcl ?_
    refine lv_astore (lv' := [(4, .ref q9), (0, .ref lo), (1, .int x), (2, .int y), (3, .ref oj)]) hx hb dL_setRain_20 hl (by decide) rfl (fun ls hl => ?_)
    refine lv_iconst (v := 1) hx hb dL_setRain_22 (by decide) ?_
    exact hend 1 L f _ _ _ _ _ _ (GR.rf hN) (Or.inr ⟨_, hxe, rfl, rfl, ⟨rfl, rfl⟩⟩) hP hS (Nat.le_of_ble_eq_true rfl) (Nat.le_of_ble_eq_true rfl) dL_setRain_23
  · refine lv_if_eq (tgt := 15) hx hb dL_setRain_8 (by decide) (fun h0 => ?_) (fun h0 => ?_)
    · refine lv_lconst (v := 0) hx hb dL_setRain_15 (by decide) ?_
      refine pj_ast hx hb hK hP hN hA hS hLoj (hPoj _ _ hr) dL_setRain_16 (fun H locs hP hS => ?_)
      refine lv_goto (tgt := 24) hx hb dL_setRain_17 (by decide) ?_
      refine lv_iconst (v := 0) hx hb dL_setRain_24 (by decide) ?_
      exact hend 0 L _ _ _ _ _ _ _ (GR.rf hN) (Or.inl ⟨rfl, rfl, v, f1, hr, by rw [if_pos h0]⟩) hP hS (Nat.le_of_ble_eq_true rfl) (Nat.le_of_ble_eq_true rfl) dL_setRain_25
    · refine lv_lconst (v := 1) hx hb dL_setRain_11 (by decide) ?_
      refine lv_goto (tgt := 16) hx hb dL_setRain_12 (by decide) ?_
      refine pj_ast hx hb hK hP hN hA hS hLoj (hPoj _ _ hr) dL_setRain_16 (fun H locs hP hS => ?_)
      refine lv_goto (tgt := 24) hx hb dL_setRain_17 (by decide) ?_
      refine lv_iconst (v := 0) hx hb dL_setRain_24 (by decide) ?_
      exact hend 0 L _ _ _ _ _ _ _ (GR.rf hN) (Or.inl ⟨rfl, rfl, v, f1, hr, by rw [if_neg h0]⟩) hP hS (Nat.le_of_ble_eq_true rfl) (Nat.le_of_ble_eq_true rfl) dL_setRain_25
set_option maxHeartbeats 4000000 in
set_option maxRecDepth 100000 in
theorem c_sign (l : Launch) (g : GG) (L : List Nat) (f : Nat → va_E) (sz : Nat) (hN : L.Nodup) (t : Nat) (lo oj : Nat) (x y : Int32) (w : Nat → Int64) (P : Int32 → List Nat → (Nat → va_E) → Prop) (xc : String → Prop) (hM : ∀ sz, TA l g yX4_sign wsX4_sign 6 108 12 720 t L f sz [.ref lo, .int x, .int y] P xc) (hLlo : lo ∈ L) {fs : List Value} (hflo : f lo = eO 5 fs) (hLoj : oj ∈ L) (hPoj : ∀ r L1 f1, P r L1 f1 → f1 oj = eJ g 1 w) (hxc : ∀ E, xc E → E = "java/lang/IllegalArgumentException" ∨ E = "java/lang/IllegalStateException") : LW l g yL_sign wsL_sign 7 130 12 720 t L f sz [.ref lo, .int x, .int y, .ref oj] (fun r L2 f2 => (r = 0 ∧ ∃ v f1, P v L2 f1 ∧ f2 = va_up f1 oj (eJ g 1 (fun _ => v.toInt64))) ∨ (∃ E, xc E ∧ L2 = L ∧ f2 = f ∧ ((E = "java/lang/IllegalArgumentException" ∧ r = 1) ∨ (E = "java/lang/IllegalStateException" ∧ r = 2)))) := by
  refine LW.start (cc := cL_sign) (maxL := 5) (hh := [(0, 10, 13, 15), (0, 10, 17, 24)]) (by decide) rfl (by simp [lg_sl, Value.category]) ?_
  intro p e s m args below meth c Q ls hx hb hml hts hown htab hS hP hK hZ hDS hNC hl hend
  have hl : lv_has ls 5 [(0, .ref lo), (1, .int x), (2, .int y), (3, .ref oj)] := hl
  have hA : ∀ a ∈ L, AA L s.heap.size a := fun _ h => Or.inl h
  refine lv_aload_n hx hb dL_sign_0 rfl (lv_at hl 3 rfl) ?_
  refine lv_iconst (v := 0) hx hb dL_sign_1 (by decide) ?_
  refine lv_aload_n hx hb dL_sign_2 rfl (lv_at hl 0 rfl) ?_
  refine lv_iload_n hx hb dL_sign_3 rfl (lv_at hl 1 rfl) ?_
  refine lv_iload_n hx hb dL_sign_4 rfl (lv_at hl 2 rfl) ?_
  refine ta_V (As := [.int x, .int y]) (rest := [.int 0, .ref oj]) ⟨hx, hb, hml, hown, hts⟩ (hM _) (cwV 2 hts gL_sign_X4_sign rfl rfl rfl (by decide +kernel) ⟨Nat.le_of_ble_eq_true rfl, Nat.le_of_ble_eq_true rfl⟩) hK hZ hDS hP hA hS hLlo hflo rfl rfl hl.1 rfl (Nat.le_of_ble_eq_true rfl) dL_sign_5 ⟨Nat.le_of_ble_eq_true rfl, Nat.le_of_ble_eq_true rfl⟩ (fun E ce q9 H locs hxe hP hS hce hcv hcl => ?_) (fun v L1 f1 H locs hG hr hP hS hA1 => ?_)
  · rcases hxc E hxe with rfl | rfl
    · refine vx_catch (name := "java/lang/IllegalArgumentException") hown [] ⟨0, 10, 13, 15⟩ [⟨0, 10, 17, 24⟩] htab (fun _ h => absurd h List.not_mem_nil) (by decide) (by decide) (hts (.classLink RL 15 "java/lang/IllegalArgumentException") (by decide +kernel)) (hK.nest 57 rfl) hce hcv hcl ?_
      refine lv_astore (lv' := [(4, .ref q9), (0, .ref lo), (1, .int x), (2, .int y), (3, .ref oj)]) hx hb dL_sign_13 hl (by decide) rfl (fun ls hl => ?_)
      refine lv_iconst (v := 1) hx hb dL_sign_15 (by decide) ?_
      exact hend 1 L f _ _ _ _ _ _ (GR.rf hN) (Or.inr ⟨_, hxe, rfl, rfl, Or.inl ⟨rfl, rfl⟩⟩) hP hS (Nat.le_of_ble_eq_true rfl) (Nat.le_of_ble_eq_true rfl) dL_sign_16
    · refine vx_catch (name := "java/lang/IllegalStateException") hown [⟨0, 10, 13, 15⟩] ⟨0, 10, 17, 24⟩ [] htab (fun z h => (List.mem_cons.mp h).elim (fun e9 => by subst e9; exact Or.inr ⟨by decide, "java/lang/IllegalArgumentException", hts (.classLink RL 15 "java/lang/IllegalArgumentException") (by decide +kernel), hNC.2.2.2⟩) (fun h => (fun _ h => absurd h List.not_mem_nil) z h)) (by decide) (by decide) (hts (.classLink RL 24 "java/lang/IllegalStateException") (by decide +kernel)) (hK.nest 58 rfl) hce hcv hcl ?_
      refine lv_astore (lv' := [(4, .ref q9), (0, .ref lo), (1, .int x), (2, .int y), (3, .ref oj)]) hx hb dL_sign_17 hl (by decide) rfl (fun ls hl => ?_)
      refine lv_iconst (v := 2) hx hb dL_sign_19 (by decide) ?_
      exact hend 2 L f _ _ _ _ _ _ (GR.rf hN) (Or.inr ⟨_, hxe, rfl, rfl, Or.inr (⟨rfl, rfl⟩)⟩) hP hS (Nat.le_of_ble_eq_true rfl) (Nat.le_of_ble_eq_true rfl) dL_sign_20
  · refine lv_i2l (v := v.toInt64) hx hb dL_sign_8 rfl ?_
    refine pj_ast hx hb hK hP hG.1 hA1 hS (hG.2.1 _ hLoj) (hPoj _ _ _ hr) dL_sign_9 (fun H locs hP hS => ?_)
    refine lv_goto (tgt := 21) hx hb dL_sign_10 (by decide) ?_
    refine lv_iconst (v := 0) hx hb dL_sign_21 (by decide) ?_
    exact hend 0 L1 _ _ _ _ _ _ _ hG (Or.inl ⟨rfl, v, f1, hr, rfl⟩) hP hS (Nat.le_of_ble_eq_true rfl) (Nat.le_of_ble_eq_true rfl) dL_sign_22
set_option maxHeartbeats 4000000 in
set_option maxRecDepth 100000 in
theorem c_join (l : Launch) (g : GG) (L : List Nat) (f : Nat → va_E) (sz : Nat) (hN : L.Nodup) (t : Nat) (lo oj : Nat) (w : Nat → Int64) (P : Int32 → (Nat → va_E) → Prop) (xc : String → Prop) (hM : ∀ sz, TW l g yX4_join wsX4_join 6 90 1 6 L f sz [.ref lo] P xc) (hLlo : lo ∈ L) {fs : List Value} (hflo : f lo = eO 5 fs) (hLoj : oj ∈ L) (hPoj : ∀ r f1, P r f1 → f1 oj = eJ g 1 w) (hxc : ∀ E, xc E → E = "java/lang/IllegalStateException") : LW l g yL_join wsL_join 7 110 1 6 t L f sz [.ref lo, .ref oj] (fun r L2 f2 => (r = 0 ∧ L2 = L ∧ ∃ v f1, P v f1 ∧ f2 = va_up f1 oj (eJ g 1 (fun _ => v.toInt64))) ∨ (∃ E, xc E ∧ L2 = L ∧ f2 = f ∧ ((E = "java/lang/IllegalStateException" ∧ r = 1)))) := by
  refine LW.start (cc := cL_join) (maxL := 3) (hh := [(0, 8, 11, 24)]) (by decide) rfl (by simp [lg_sl, Value.category]) ?_
  intro p e s m args below meth c Q ls hx hb hml hts hown htab hS hP hK hZ hDS hNC hl hend
  have hl : lv_has ls 3 [(0, .ref lo), (1, .ref oj)] := hl
  have hA : ∀ a ∈ L, AA L s.heap.size a := fun _ h => Or.inl h
  refine lv_aload_n hx hb dL_join_0 rfl (lv_at hl 1 rfl) ?_
  refine lv_iconst (v := 0) hx hb dL_join_1 (by decide) ?_
  refine lv_aload_n hx hb dL_join_2 rfl (lv_at hl 0 rfl) ?_
  refine tw_V (As := []) (rest := [.int 0, .ref oj]) ⟨hx, hb, hml, hown, hts⟩ (hM _) (cwV 0 hts gL_join_X4_join rfl rfl rfl (by decide +kernel) ⟨Nat.le_of_ble_eq_true rfl, Nat.le_of_ble_eq_true rfl⟩) hK hZ hP hS hLlo hflo rfl rfl hl.1 rfl (Nat.le_of_ble_eq_true rfl) dL_join_3 ⟨Nat.le_of_ble_eq_true rfl, Nat.le_of_ble_eq_true rfl⟩ (fun E ce q9 H locs hxe hP hS hce hcv hcl => ?_) (fun v f1 H locs hr hP hS => ?_)
  · obtain rfl := hxc E hxe
    refine vx_catch (name := "java/lang/IllegalStateException") hown [] ⟨0, 8, 11, 24⟩ [] htab (fun _ h => absurd h List.not_mem_nil) (by decide) (by decide) (hts (.classLink RL 24 "java/lang/IllegalStateException") (by decide +kernel)) (hK.nest 58 rfl) hce hcv hcl ?_
    refine lv_astore_n (lv' := [(2, .ref q9), (0, .ref lo), (1, .ref oj)]) hx hb dL_join_11 rfl hl (by decide) rfl (fun ls hl => ?_)
    refine lv_iconst (v := 1) hx hb dL_join_12 (by decide) ?_
    exact hend 1 L f _ _ _ _ _ _ (GR.rf hN) (Or.inr ⟨_, hxe, rfl, rfl, ⟨rfl, rfl⟩⟩) hP hS (Nat.le_of_ble_eq_true rfl) (Nat.le_of_ble_eq_true rfl) dL_join_13
  · refine lv_i2l (v := v.toInt64) hx hb dL_join_6 rfl ?_
    refine pj_ast hx hb hK hP hN hA hS hLoj (hPoj _ _ hr) dL_join_7 (fun H locs hP hS => ?_)
    refine lv_goto (tgt := 14) hx hb dL_join_8 (by decide) ?_
    refine lv_iconst (v := 0) hx hb dL_join_14 (by decide) ?_
    exact hend 0 L _ _ _ _ _ _ _ (GR.rf hN) (Or.inl ⟨rfl, rfl, v, f1, hr, rfl⟩) hP hS (Nat.le_of_ble_eq_true rfl) (Nat.le_of_ble_eq_true rfl) dL_join_15
set_option maxHeartbeats 4000000 in
set_option maxRecDepth 100000 in
theorem c_weigh (l : Launch) (g : GG) (L : List Nat) (f : Nat → va_E) (sz : Nat) (hN : L.Nodup) (t : Nat) (lo oj : Nat) (x y z : Int32) (w : Nat → Int64) (P : Int32 → (Nat → va_E) → Prop) (xc : String → Prop) (hM : ∀ sz, TW l g yX4_weigh wsX4_weigh 7 111 3 18 L f sz [.ref lo, .int x, .int y, .int z] P xc) (hLlo : lo ∈ L) {fs : List Value} (hflo : f lo = eO 5 fs) (hLoj : oj ∈ L) (hPoj : ∀ r f1, P r f1 → f1 oj = eJ g 1 w) (hxc : ∀ E, xc E → E = "java/lang/IndexOutOfBoundsException" ∨ E = "java/lang/IllegalArgumentException") : LW l g yL_weigh wsL_weigh 8 136 3 18 t L f sz [.ref lo, .int x, .int y, .int z, .ref oj] (fun r L2 f2 => (r = 0 ∧ L2 = L ∧ ∃ v f1, P v f1 ∧ f2 = va_up f1 oj (eJ g 1 (fun _ => v.toInt64))) ∨ (∃ E, xc E ∧ L2 = L ∧ f2 = f ∧ ((E = "java/lang/IndexOutOfBoundsException" ∧ r = 1) ∨ (E = "java/lang/IllegalArgumentException" ∧ r = 2)))) := by
  refine LW.start (cc := cL_weigh) (maxL := 6) (hh := [(0, 12, 15, 13), (0, 12, 19, 15)]) (by decide) rfl (by simp [lg_sl, Value.category]) ?_
  intro p e s m args below meth c Q ls hx hb hml hts hown htab hS hP hK hZ hDS hNC hl hend
  have hl : lv_has ls 6 [(0, .ref lo), (1, .int x), (2, .int y), (3, .int z), (4, .ref oj)] := hl
  have hA : ∀ a ∈ L, AA L s.heap.size a := fun _ h => Or.inl h
  refine lv_aload hx hb dL_weigh_0 (lv_at hl 4 rfl) ?_
  refine lv_iconst (v := 0) hx hb dL_weigh_2 (by decide) ?_
  refine lv_aload_n hx hb dL_weigh_3 rfl (lv_at hl 0 rfl) ?_
  refine lv_iload_n hx hb dL_weigh_4 rfl (lv_at hl 1 rfl) ?_
  refine lv_iload_n hx hb dL_weigh_5 rfl (lv_at hl 2 rfl) ?_
  refine lv_iload_n hx hb dL_weigh_6 rfl (lv_at hl 3 rfl) ?_
  refine tw_V (As := [.int x, .int y, .int z]) (rest := [.int 0, .ref oj]) ⟨hx, hb, hml, hown, hts⟩ (hM _) (cwV 3 hts gL_weigh_X4_weigh rfl rfl rfl (by decide +kernel) ⟨Nat.le_of_ble_eq_true rfl, Nat.le_of_ble_eq_true rfl⟩) hK hZ hP hS hLlo hflo rfl rfl hl.1 rfl (Nat.le_of_ble_eq_true rfl) dL_weigh_7 ⟨Nat.le_of_ble_eq_true rfl, Nat.le_of_ble_eq_true rfl⟩ (fun E ce q9 H locs hxe hP hS hce hcv hcl => ?_) (fun v f1 H locs hr hP hS => ?_)
  · rcases hxc E hxe with rfl | rfl
    · refine vx_catch (name := "java/lang/IndexOutOfBoundsException") hown [] ⟨0, 12, 15, 13⟩ [⟨0, 12, 19, 15⟩] htab (fun _ h => absurd h List.not_mem_nil) (by decide) (by decide) (hts (.classLink RL 13 "java/lang/IndexOutOfBoundsException") (by decide +kernel)) (hK.nest 56 rfl) hce hcv hcl ?_
      refine lv_astore (lv' := [(5, .ref q9), (0, .ref lo), (1, .int x), (2, .int y), (3, .int z), (4, .ref oj)]) hx hb dL_weigh_15 hl (by decide) rfl (fun ls hl => ?_)
      refine lv_iconst (v := 1) hx hb dL_weigh_17 (by decide) ?_
      exact hend 1 L f _ _ _ _ _ _ (GR.rf hN) (Or.inr ⟨_, hxe, rfl, rfl, Or.inl ⟨rfl, rfl⟩⟩) hP hS (Nat.le_of_ble_eq_true rfl) (Nat.le_of_ble_eq_true rfl) dL_weigh_18
    · refine vx_catch (name := "java/lang/IllegalArgumentException") hown [⟨0, 12, 15, 13⟩] ⟨0, 12, 19, 15⟩ [] htab (fun z h => (List.mem_cons.mp h).elim (fun e9 => by subst e9; exact Or.inr ⟨by decide, "java/lang/IndexOutOfBoundsException", hts (.classLink RL 13 "java/lang/IndexOutOfBoundsException") (by decide +kernel), hNC.1⟩) (fun h => (fun _ h => absurd h List.not_mem_nil) z h)) (by decide) (by decide) (hts (.classLink RL 15 "java/lang/IllegalArgumentException") (by decide +kernel)) (hK.nest 57 rfl) hce hcv hcl ?_
      refine lv_astore (lv' := [(5, .ref q9), (0, .ref lo), (1, .int x), (2, .int y), (3, .int z), (4, .ref oj)]) hx hb dL_weigh_19 hl (by decide) rfl (fun ls hl => ?_)
      refine lv_iconst (v := 2) hx hb dL_weigh_21 (by decide) ?_
      exact hend 2 L f _ _ _ _ _ _ (GR.rf hN) (Or.inr ⟨_, hxe, rfl, rfl, Or.inr (⟨rfl, rfl⟩)⟩) hP hS (Nat.le_of_ble_eq_true rfl) (Nat.le_of_ble_eq_true rfl) dL_weigh_22
  · refine lv_i2l (v := v.toInt64) hx hb dL_weigh_10 rfl ?_
    refine pj_ast hx hb hK hP hN hA hS hLoj (hPoj _ _ hr) dL_weigh_11 (fun H locs hP hS => ?_)
    refine lv_goto (tgt := 23) hx hb dL_weigh_12 (by decide) ?_
    refine lv_iconst (v := 0) hx hb dL_weigh_23 (by decide) ?_
    exact hend 0 L _ _ _ _ _ _ _ (GR.rf hN) (Or.inl ⟨rfl, rfl, v, f1, hr, rfl⟩) hP hS (Nat.le_of_ble_eq_true rfl) (Nat.le_of_ble_eq_true rfl) dL_weigh_24
set_option maxHeartbeats 4000000 in
set_option maxRecDepth 100000 in
theorem c_share (l : Launch) (g : GG) (L : List Nat) (f : Nat → va_E) (sz : Nat) (hN : L.Nodup) (t : Nat) (lo oj : Nat) (x y : Int32) (w : Nat → Int64) (P : Int32 → (Nat → va_E) → Prop) (xc : String → Prop) (hM : ∀ sz, TW l g yX4_share wsX4_share 7 111 4 24 L f sz [.ref lo, .int x, .int y] P xc) (hLlo : lo ∈ L) {fs : List Value} (hflo : f lo = eO 5 fs) (hLoj : oj ∈ L) (hPoj : ∀ r f1, P r f1 → f1 oj = eJ g 1 w) (hxc : ∀ E, xc E → E = "java/lang/IndexOutOfBoundsException" ∨ E = "java/lang/IllegalArgumentException" ∨ E = "java/lang/IllegalStateException") : LW l g yL_share wsL_share 8 135 4 24 t L f sz [.ref lo, .int x, .int y, .ref oj] (fun r L2 f2 => (r = 0 ∧ L2 = L ∧ ∃ v f1, P v f1 ∧ f2 = va_up f1 oj (eJ g 1 (fun _ => v.toInt64))) ∨ (∃ E, xc E ∧ L2 = L ∧ f2 = f ∧ ((E = "java/lang/IndexOutOfBoundsException" ∧ r = 1) ∨ (E = "java/lang/IllegalArgumentException" ∧ r = 2) ∨ (E = "java/lang/IllegalStateException" ∧ r = 3)))) := by
  refine LW.start (cc := cL_share) (maxL := 5) (hh := [(0, 10, 13, 13), (0, 10, 17, 15), (0, 10, 21, 24)]) (by decide) rfl (by simp [lg_sl, Value.category]) ?_
  intro p e s m args below meth c Q ls hx hb hml hts hown htab hS hP hK hZ hDS hNC hl hend
  have hl : lv_has ls 5 [(0, .ref lo), (1, .int x), (2, .int y), (3, .ref oj)] := hl
  have hA : ∀ a ∈ L, AA L s.heap.size a := fun _ h => Or.inl h
  refine lv_aload_n hx hb dL_share_0 rfl (lv_at hl 3 rfl) ?_
  refine lv_iconst (v := 0) hx hb dL_share_1 (by decide) ?_
  refine lv_aload_n hx hb dL_share_2 rfl (lv_at hl 0 rfl) ?_
  refine lv_iload_n hx hb dL_share_3 rfl (lv_at hl 1 rfl) ?_
  refine lv_iload_n hx hb dL_share_4 rfl (lv_at hl 2 rfl) ?_
  refine tw_V (As := [.int x, .int y]) (rest := [.int 0, .ref oj]) ⟨hx, hb, hml, hown, hts⟩ (hM _) (cwV 2 hts gL_share_X4_share rfl rfl rfl (by decide +kernel) ⟨Nat.le_of_ble_eq_true rfl, Nat.le_of_ble_eq_true rfl⟩) hK hZ hP hS hLlo hflo rfl rfl hl.1 rfl (Nat.le_of_ble_eq_true rfl) dL_share_5 ⟨Nat.le_of_ble_eq_true rfl, Nat.le_of_ble_eq_true rfl⟩ (fun E ce q9 H locs hxe hP hS hce hcv hcl => ?_) (fun v f1 H locs hr hP hS => ?_)
  · rcases hxc E hxe with rfl | rfl | rfl
    · refine vx_catch (name := "java/lang/IndexOutOfBoundsException") hown [] ⟨0, 10, 13, 13⟩ [⟨0, 10, 17, 15⟩, ⟨0, 10, 21, 24⟩] htab (fun _ h => absurd h List.not_mem_nil) (by decide) (by decide) (hts (.classLink RL 13 "java/lang/IndexOutOfBoundsException") (by decide +kernel)) (hK.nest 56 rfl) hce hcv hcl ?_
      refine lv_astore (lv' := [(4, .ref q9), (0, .ref lo), (1, .int x), (2, .int y), (3, .ref oj)]) hx hb dL_share_13 hl (by decide) rfl (fun ls hl => ?_)
      refine lv_iconst (v := 1) hx hb dL_share_15 (by decide) ?_
      exact hend 1 L f _ _ _ _ _ _ (GR.rf hN) (Or.inr ⟨_, hxe, rfl, rfl, Or.inl ⟨rfl, rfl⟩⟩) hP hS (Nat.le_of_ble_eq_true rfl) (Nat.le_of_ble_eq_true rfl) dL_share_16
    · refine vx_catch (name := "java/lang/IllegalArgumentException") hown [⟨0, 10, 13, 13⟩] ⟨0, 10, 17, 15⟩ [⟨0, 10, 21, 24⟩] htab (fun z h => (List.mem_cons.mp h).elim (fun e9 => by subst e9; exact Or.inr ⟨by decide, "java/lang/IndexOutOfBoundsException", hts (.classLink RL 13 "java/lang/IndexOutOfBoundsException") (by decide +kernel), hNC.1⟩) (fun h => (fun _ h => absurd h List.not_mem_nil) z h)) (by decide) (by decide) (hts (.classLink RL 15 "java/lang/IllegalArgumentException") (by decide +kernel)) (hK.nest 57 rfl) hce hcv hcl ?_
      refine lv_astore (lv' := [(4, .ref q9), (0, .ref lo), (1, .int x), (2, .int y), (3, .ref oj)]) hx hb dL_share_17 hl (by decide) rfl (fun ls hl => ?_)
      refine lv_iconst (v := 2) hx hb dL_share_19 (by decide) ?_
      exact hend 2 L f _ _ _ _ _ _ (GR.rf hN) (Or.inr ⟨_, hxe, rfl, rfl, Or.inr (Or.inl ⟨rfl, rfl⟩)⟩) hP hS (Nat.le_of_ble_eq_true rfl) (Nat.le_of_ble_eq_true rfl) dL_share_20
    · refine vx_catch (name := "java/lang/IllegalStateException") hown [⟨0, 10, 13, 13⟩, ⟨0, 10, 17, 15⟩] ⟨0, 10, 21, 24⟩ [] htab (fun z h => (List.mem_cons.mp h).elim (fun e9 => by subst e9; exact Or.inr ⟨by decide, "java/lang/IndexOutOfBoundsException", hts (.classLink RL 13 "java/lang/IndexOutOfBoundsException") (by decide +kernel), hNC.2.1⟩) (fun h => (fun z h => (List.mem_cons.mp h).elim (fun e9 => by subst e9; exact Or.inr ⟨by decide, "java/lang/IllegalArgumentException", hts (.classLink RL 15 "java/lang/IllegalArgumentException") (by decide +kernel), hNC.2.2.2⟩) (fun h => (fun _ h => absurd h List.not_mem_nil) z h)) z h)) (by decide) (by decide) (hts (.classLink RL 24 "java/lang/IllegalStateException") (by decide +kernel)) (hK.nest 58 rfl) hce hcv hcl ?_
      refine lv_astore (lv' := [(4, .ref q9), (0, .ref lo), (1, .int x), (2, .int y), (3, .ref oj)]) hx hb dL_share_21 hl (by decide) rfl (fun ls hl => ?_)
      refine lv_iconst (v := 3) hx hb dL_share_23 (by decide) ?_
      exact hend 3 L f _ _ _ _ _ _ (GR.rf hN) (Or.inr ⟨_, hxe, rfl, rfl, Or.inr (Or.inr (⟨rfl, rfl⟩))⟩) hP hS (Nat.le_of_ble_eq_true rfl) (Nat.le_of_ble_eq_true rfl) dL_share_24
  · refine lv_i2l (v := v.toInt64) hx hb dL_share_8 rfl ?_
    refine pj_ast hx hb hK hP hN hA hS hLoj (hPoj _ _ hr) dL_share_9 (fun H locs hP hS => ?_)
    refine lv_goto (tgt := 25) hx hb dL_share_10 (by decide) ?_
    refine lv_iconst (v := 0) hx hb dL_share_25 (by decide) ?_
    exact hend 0 L _ _ _ _ _ _ _ (GR.rf hN) (Or.inl ⟨rfl, rfl, v, f1, hr, rfl⟩) hP hS (Nat.le_of_ble_eq_true rfl) (Nat.le_of_ble_eq_true rfl) dL_share_26
set_option maxHeartbeats 4000000 in
set_option maxRecDepth 100000 in
theorem c_says (l : Launch) (g : GG) (L : List Nat) (f : Nat → va_E) (sz : Nat) (hN : L.Nodup) (t : Nat) (lo oj : Nat) (x y : Int32) (w : Nat → Int64) (P : Int32 → (Nat → va_E) → Prop) (xc : String → Prop) (hM : ∀ sz, TW l g yX4_says wsX4_says 7 111 2 12 L f sz [.ref lo, .int x, .int y] P xc) (hLlo : lo ∈ L) {fs : List Value} (hflo : f lo = eO 5 fs) (hLoj : oj ∈ L) (hPoj : ∀ r f1, P r f1 → f1 oj = eJ g 1 w) (hxc : ∀ E, xc E → E = "java/lang/IndexOutOfBoundsException" ∨ E = "java/lang/IllegalArgumentException") : LW l g yL_says wsL_says 8 133 2 12 t L f sz [.ref lo, .int x, .int y, .ref oj] (fun r L2 f2 => (r = 0 ∧ L2 = L ∧ ∃ v f1, P v f1 ∧ f2 = va_up f1 oj (eJ g 1 (fun _ => (if v = 0 then 0 else 1)))) ∨ (∃ E, xc E ∧ L2 = L ∧ f2 = f ∧ ((E = "java/lang/IndexOutOfBoundsException" ∧ r = 1) ∨ (E = "java/lang/IllegalArgumentException" ∧ r = 2)))) := by
  refine LW.start (cc := cL_says) (maxL := 5) (hh := [(0, 17, 20, 13), (0, 17, 24, 15)]) (by decide) rfl (by simp [lg_sl, Value.category]) ?_
  intro p e s m args below meth c Q ls hx hb hml hts hown htab hS hP hK hZ hDS hNC hl hend
  have hl : lv_has ls 5 [(0, .ref lo), (1, .int x), (2, .int y), (3, .ref oj)] := hl
  have hA : ∀ a ∈ L, AA L s.heap.size a := fun _ h => Or.inl h
  refine lv_aload_n hx hb dL_says_0 rfl (lv_at hl 3 rfl) ?_
  refine lv_iconst (v := 0) hx hb dL_says_1 (by decide) ?_
  refine lv_aload_n hx hb dL_says_2 rfl (lv_at hl 0 rfl) ?_
  refine lv_iload_n hx hb dL_says_3 rfl (lv_at hl 1 rfl) ?_
  refine lv_iload_n hx hb dL_says_4 rfl (lv_at hl 2 rfl) ?_
  refine tw_V (As := [.int x, .int y]) (rest := [.int 0, .ref oj]) ⟨hx, hb, hml, hown, hts⟩ (hM _) (cwV 2 hts gL_says_X4_says rfl rfl rfl (by decide +kernel) ⟨Nat.le_of_ble_eq_true rfl, Nat.le_of_ble_eq_true rfl⟩) hK hZ hP hS hLlo hflo rfl rfl hl.1 rfl (Nat.le_of_ble_eq_true rfl) dL_says_5 ⟨Nat.le_of_ble_eq_true rfl, Nat.le_of_ble_eq_true rfl⟩ (fun E ce q9 H locs hxe hP hS hce hcv hcl => ?_) (fun v f1 H locs hr hP hS => ?_)
  · rcases hxc E hxe with rfl | rfl
    · refine vx_catch (name := "java/lang/IndexOutOfBoundsException") hown [] ⟨0, 17, 20, 13⟩ [⟨0, 17, 24, 15⟩] htab (fun _ h => absurd h List.not_mem_nil) (by decide) (by decide) (hts (.classLink RL 13 "java/lang/IndexOutOfBoundsException") (by decide +kernel)) (hK.nest 56 rfl) hce hcv hcl ?_
      refine lv_astore (lv' := [(4, .ref q9), (0, .ref lo), (1, .int x), (2, .int y), (3, .ref oj)]) hx hb dL_says_20 hl (by decide) rfl (fun ls hl => ?_)
      refine lv_iconst (v := 1) hx hb dL_says_22 (by decide) ?_
      exact hend 1 L f _ _ _ _ _ _ (GR.rf hN) (Or.inr ⟨_, hxe, rfl, rfl, Or.inl ⟨rfl, rfl⟩⟩) hP hS (Nat.le_of_ble_eq_true rfl) (Nat.le_of_ble_eq_true rfl) dL_says_23
    · refine vx_catch (name := "java/lang/IllegalArgumentException") hown [⟨0, 17, 20, 13⟩] ⟨0, 17, 24, 15⟩ [] htab (fun z h => (List.mem_cons.mp h).elim (fun e9 => by subst e9; exact Or.inr ⟨by decide, "java/lang/IndexOutOfBoundsException", hts (.classLink RL 13 "java/lang/IndexOutOfBoundsException") (by decide +kernel), hNC.1⟩) (fun h => (fun _ h => absurd h List.not_mem_nil) z h)) (by decide) (by decide) (hts (.classLink RL 15 "java/lang/IllegalArgumentException") (by decide +kernel)) (hK.nest 57 rfl) hce hcv hcl ?_
      refine lv_astore (lv' := [(4, .ref q9), (0, .ref lo), (1, .int x), (2, .int y), (3, .ref oj)]) hx hb dL_says_24 hl (by decide) rfl (fun ls hl => ?_)
      refine lv_iconst (v := 2) hx hb dL_says_26 (by decide) ?_
      exact hend 2 L f _ _ _ _ _ _ (GR.rf hN) (Or.inr ⟨_, hxe, rfl, rfl, Or.inr (⟨rfl, rfl⟩)⟩) hP hS (Nat.le_of_ble_eq_true rfl) (Nat.le_of_ble_eq_true rfl) dL_says_27
  · refine lv_if_eq (tgt := 15) hx hb dL_says_8 (by decide) (fun h0 => ?_) (fun h0 => ?_)
    · refine lv_lconst (v := 0) hx hb dL_says_15 (by decide) ?_
      refine pj_ast hx hb hK hP hN hA hS hLoj (hPoj _ _ hr) dL_says_16 (fun H locs hP hS => ?_)
      refine lv_goto (tgt := 28) hx hb dL_says_17 (by decide) ?_
      refine lv_iconst (v := 0) hx hb dL_says_28 (by decide) ?_
      exact hend 0 L _ _ _ _ _ _ _ (GR.rf hN) (Or.inl ⟨rfl, rfl, v, f1, hr, by rw [if_pos h0]⟩) hP hS (Nat.le_of_ble_eq_true rfl) (Nat.le_of_ble_eq_true rfl) dL_says_29
    · refine lv_lconst (v := 1) hx hb dL_says_11 (by decide) ?_
      refine lv_goto (tgt := 16) hx hb dL_says_12 (by decide) ?_
      refine pj_ast hx hb hK hP hN hA hS hLoj (hPoj _ _ hr) dL_says_16 (fun H locs hP hS => ?_)
      refine lv_goto (tgt := 28) hx hb dL_says_17 (by decide) ?_
      refine lv_iconst (v := 0) hx hb dL_says_28 (by decide) ?_
      exact hend 0 L _ _ _ _ _ _ _ (GR.rf hN) (Or.inl ⟨rfl, rfl, v, f1, hr, by rw [if_neg h0]⟩) hP hS (Nat.le_of_ble_eq_true rfl) (Nat.le_of_ble_eq_true rfl) dL_says_29
set_option maxHeartbeats 4000000 in
set_option maxRecDepth 100000 in
theorem c_told (l : Launch) (g : GG) (L : List Nat) (f : Nat → va_E) (sz : Nat) (hN : L.Nodup) (t : Nat) (lo oj : Nat) (x y : Int32) (w : Nat → Int64) (P : Int32 → (Nat → va_E) → Prop) (xc : String → Prop) (hM : ∀ sz, TW l g yX4_told wsX4_told 7 112 2 12 L f sz [.ref lo, .int x, .int y] P xc) (hLlo : lo ∈ L) {fs : List Value} (hflo : f lo = eO 5 fs) (hLoj : oj ∈ L) (hPoj : ∀ r f1, P r f1 → f1 oj = eJ g 1 w) (hxc : ∀ E, xc E → E = "java/lang/IndexOutOfBoundsException") : LW l g yL_told wsL_told 8 135 2 12 t L f sz [.ref lo, .int x, .int y, .ref oj] (fun r L2 f2 => (r = 0 ∧ L2 = L ∧ ∃ v f1, P v f1 ∧ f2 = va_up f1 oj (eJ g 1 (fun _ => v.toInt64))) ∨ (∃ E, xc E ∧ L2 = L ∧ f2 = f ∧ ((E = "java/lang/IndexOutOfBoundsException" ∧ r = 1)))) := by
  refine LW.start (cc := cL_told) (maxL := 5) (hh := [(0, 10, 13, 13)]) (by decide) rfl (by simp [lg_sl, Value.category]) ?_
  intro p e s m args below meth c Q ls hx hb hml hts hown htab hS hP hK hZ hDS hNC hl hend
  have hl : lv_has ls 5 [(0, .ref lo), (1, .int x), (2, .int y), (3, .ref oj)] := hl
  have hA : ∀ a ∈ L, AA L s.heap.size a := fun _ h => Or.inl h
  refine lv_aload_n hx hb dL_told_0 rfl (lv_at hl 3 rfl) ?_
  refine lv_iconst (v := 0) hx hb dL_told_1 (by decide) ?_
  refine lv_aload_n hx hb dL_told_2 rfl (lv_at hl 0 rfl) ?_
  refine lv_iload_n hx hb dL_told_3 rfl (lv_at hl 1 rfl) ?_
  refine lv_iload_n hx hb dL_told_4 rfl (lv_at hl 2 rfl) ?_
  refine tw_V (As := [.int x, .int y]) (rest := [.int 0, .ref oj]) ⟨hx, hb, hml, hown, hts⟩ (hM _) (cwV 2 hts gL_told_X4_told rfl rfl rfl (by decide +kernel) ⟨Nat.le_of_ble_eq_true rfl, Nat.le_of_ble_eq_true rfl⟩) hK hZ hP hS hLlo hflo rfl rfl hl.1 rfl (Nat.le_of_ble_eq_true rfl) dL_told_5 ⟨Nat.le_of_ble_eq_true rfl, Nat.le_of_ble_eq_true rfl⟩ (fun E ce q9 H locs hxe hP hS hce hcv hcl => ?_) (fun v f1 H locs hr hP hS => ?_)
  · obtain rfl := hxc E hxe
    refine vx_catch (name := "java/lang/IndexOutOfBoundsException") hown [] ⟨0, 10, 13, 13⟩ [] htab (fun _ h => absurd h List.not_mem_nil) (by decide) (by decide) (hts (.classLink RL 13 "java/lang/IndexOutOfBoundsException") (by decide +kernel)) (hK.nest 56 rfl) hce hcv hcl ?_
    refine lv_astore (lv' := [(4, .ref q9), (0, .ref lo), (1, .int x), (2, .int y), (3, .ref oj)]) hx hb dL_told_13 hl (by decide) rfl (fun ls hl => ?_)
    refine lv_iconst (v := 1) hx hb dL_told_15 (by decide) ?_
    exact hend 1 L f _ _ _ _ _ _ (GR.rf hN) (Or.inr ⟨_, hxe, rfl, rfl, ⟨rfl, rfl⟩⟩) hP hS (Nat.le_of_ble_eq_true rfl) (Nat.le_of_ble_eq_true rfl) dL_told_16
  · refine lv_i2l (v := v.toInt64) hx hb dL_told_8 rfl ?_
    refine pj_ast hx hb hK hP hN hA hS hLoj (hPoj _ _ hr) dL_told_9 (fun H locs hP hS => ?_)
    refine lv_goto (tgt := 17) hx hb dL_told_10 (by decide) ?_
    refine lv_iconst (v := 0) hx hb dL_told_17 (by decide) ?_
    exact hend 0 L _ _ _ _ _ _ _ (GR.rf hN) (Or.inl ⟨rfl, rfl, v, f1, hr, rfl⟩) hP hS (Nat.le_of_ble_eq_true rfl) (Nat.le_of_ble_eq_true rfl) dL_told_18
set_option maxHeartbeats 4000000 in
set_option maxRecDepth 100000 in
theorem c_weight (l : Launch) (g : GG) (L : List Nat) (f : Nat → va_E) (sz : Nat) (hN : L.Nodup) (t : Nat) (lo oj : Nat) (x y : Int32) (w : Nat → Int64) (P : Int32 → (Nat → va_E) → Prop) (xc : String → Prop) (hM : ∀ sz, TW l g yX4_weight wsX4_weight 7 111 2 12 L f sz [.ref lo, .int x, .int y] P xc) (hLlo : lo ∈ L) {fs : List Value} (hflo : f lo = eO 5 fs) (hLoj : oj ∈ L) (hPoj : ∀ r f1, P r f1 → f1 oj = eJ g 1 w) (hxc : ∀ E, xc E → E = "java/lang/IndexOutOfBoundsException") : LW l g yL_weight wsL_weight 8 134 2 12 t L f sz [.ref lo, .int x, .int y, .ref oj] (fun r L2 f2 => (r = 0 ∧ L2 = L ∧ ∃ v f1, P v f1 ∧ f2 = va_up f1 oj (eJ g 1 (fun _ => v.toInt64))) ∨ (∃ E, xc E ∧ L2 = L ∧ f2 = f ∧ ((E = "java/lang/IndexOutOfBoundsException" ∧ r = 1)))) := by
  refine LW.start (cc := cL_weight) (maxL := 5) (hh := [(0, 10, 13, 13)]) (by decide) rfl (by simp [lg_sl, Value.category]) ?_
  intro p e s m args below meth c Q ls hx hb hml hts hown htab hS hP hK hZ hDS hNC hl hend
  have hl : lv_has ls 5 [(0, .ref lo), (1, .int x), (2, .int y), (3, .ref oj)] := hl
  have hA : ∀ a ∈ L, AA L s.heap.size a := fun _ h => Or.inl h
  refine lv_aload_n hx hb dL_weight_0 rfl (lv_at hl 3 rfl) ?_
  refine lv_iconst (v := 0) hx hb dL_weight_1 (by decide) ?_
  refine lv_aload_n hx hb dL_weight_2 rfl (lv_at hl 0 rfl) ?_
  refine lv_iload_n hx hb dL_weight_3 rfl (lv_at hl 1 rfl) ?_
  refine lv_iload_n hx hb dL_weight_4 rfl (lv_at hl 2 rfl) ?_
  refine tw_V (As := [.int x, .int y]) (rest := [.int 0, .ref oj]) ⟨hx, hb, hml, hown, hts⟩ (hM _) (cwV 2 hts gL_weight_X4_weight rfl rfl rfl (by decide +kernel) ⟨Nat.le_of_ble_eq_true rfl, Nat.le_of_ble_eq_true rfl⟩) hK hZ hP hS hLlo hflo rfl rfl hl.1 rfl (Nat.le_of_ble_eq_true rfl) dL_weight_5 ⟨Nat.le_of_ble_eq_true rfl, Nat.le_of_ble_eq_true rfl⟩ (fun E ce q9 H locs hxe hP hS hce hcv hcl => ?_) (fun v f1 H locs hr hP hS => ?_)
  · obtain rfl := hxc E hxe
    refine vx_catch (name := "java/lang/IndexOutOfBoundsException") hown [] ⟨0, 10, 13, 13⟩ [] htab (fun _ h => absurd h List.not_mem_nil) (by decide) (by decide) (hts (.classLink RL 13 "java/lang/IndexOutOfBoundsException") (by decide +kernel)) (hK.nest 56 rfl) hce hcv hcl ?_
    refine lv_astore (lv' := [(4, .ref q9), (0, .ref lo), (1, .int x), (2, .int y), (3, .ref oj)]) hx hb dL_weight_13 hl (by decide) rfl (fun ls hl => ?_)
    refine lv_iconst (v := 1) hx hb dL_weight_15 (by decide) ?_
    exact hend 1 L f _ _ _ _ _ _ (GR.rf hN) (Or.inr ⟨_, hxe, rfl, rfl, ⟨rfl, rfl⟩⟩) hP hS (Nat.le_of_ble_eq_true rfl) (Nat.le_of_ble_eq_true rfl) dL_weight_16
  · refine lv_i2l (v := v.toInt64) hx hb dL_weight_8 rfl ?_
    refine pj_ast hx hb hK hP hN hA hS hLoj (hPoj _ _ hr) dL_weight_9 (fun H locs hP hS => ?_)
    refine lv_goto (tgt := 17) hx hb dL_weight_10 (by decide) ?_
    refine lv_iconst (v := 0) hx hb dL_weight_17 (by decide) ?_
    exact hend 0 L _ _ _ _ _ _ _ (GR.rf hN) (Or.inl ⟨rfl, rfl, v, f1, hr, rfl⟩) hP hS (Nat.le_of_ble_eq_true rfl) (Nat.le_of_ble_eq_true rfl) dL_weight_18
set_option maxHeartbeats 4000000 in
set_option maxRecDepth 100000 in
theorem c_about (l : Launch) (g : GG) (L : List Nat) (f : Nat → va_E) (sz : Nat) (hN : L.Nodup) (t : Nat) (lo oj : Nat) (x y : Int32) (w : Nat → Int64) (P : Int32 → (Nat → va_E) → Prop) (xc : String → Prop) (hM : ∀ sz, TW l g yX4_about wsX4_about 7 112 2 12 L f sz [.ref lo, .int x, .int y] P xc) (hLlo : lo ∈ L) {fs : List Value} (hflo : f lo = eO 5 fs) (hLoj : oj ∈ L) (hPoj : ∀ r f1, P r f1 → f1 oj = eJ g 1 w) (hxc : ∀ E, xc E → E = "java/lang/IndexOutOfBoundsException") : LW l g yL_about wsL_about 8 135 2 12 t L f sz [.ref lo, .int x, .int y, .ref oj] (fun r L2 f2 => (r = 0 ∧ L2 = L ∧ ∃ v f1, P v f1 ∧ f2 = va_up f1 oj (eJ g 1 (fun _ => v.toInt64))) ∨ (∃ E, xc E ∧ L2 = L ∧ f2 = f ∧ ((E = "java/lang/IndexOutOfBoundsException" ∧ r = 1)))) := by
  refine LW.start (cc := cL_about) (maxL := 5) (hh := [(0, 10, 13, 13)]) (by decide) rfl (by simp [lg_sl, Value.category]) ?_
  intro p e s m args below meth c Q ls hx hb hml hts hown htab hS hP hK hZ hDS hNC hl hend
  have hl : lv_has ls 5 [(0, .ref lo), (1, .int x), (2, .int y), (3, .ref oj)] := hl
  have hA : ∀ a ∈ L, AA L s.heap.size a := fun _ h => Or.inl h
  refine lv_aload_n hx hb dL_about_0 rfl (lv_at hl 3 rfl) ?_
  refine lv_iconst (v := 0) hx hb dL_about_1 (by decide) ?_
  refine lv_aload_n hx hb dL_about_2 rfl (lv_at hl 0 rfl) ?_
  refine lv_iload_n hx hb dL_about_3 rfl (lv_at hl 1 rfl) ?_
  refine lv_iload_n hx hb dL_about_4 rfl (lv_at hl 2 rfl) ?_
  refine tw_V (As := [.int x, .int y]) (rest := [.int 0, .ref oj]) ⟨hx, hb, hml, hown, hts⟩ (hM _) (cwV 2 hts gL_about_X4_about rfl rfl rfl (by decide +kernel) ⟨Nat.le_of_ble_eq_true rfl, Nat.le_of_ble_eq_true rfl⟩) hK hZ hP hS hLlo hflo rfl rfl hl.1 rfl (Nat.le_of_ble_eq_true rfl) dL_about_5 ⟨Nat.le_of_ble_eq_true rfl, Nat.le_of_ble_eq_true rfl⟩ (fun E ce q9 H locs hxe hP hS hce hcv hcl => ?_) (fun v f1 H locs hr hP hS => ?_)
  · obtain rfl := hxc E hxe
    refine vx_catch (name := "java/lang/IndexOutOfBoundsException") hown [] ⟨0, 10, 13, 13⟩ [] htab (fun _ h => absurd h List.not_mem_nil) (by decide) (by decide) (hts (.classLink RL 13 "java/lang/IndexOutOfBoundsException") (by decide +kernel)) (hK.nest 56 rfl) hce hcv hcl ?_
    refine lv_astore (lv' := [(4, .ref q9), (0, .ref lo), (1, .int x), (2, .int y), (3, .ref oj)]) hx hb dL_about_13 hl (by decide) rfl (fun ls hl => ?_)
    refine lv_iconst (v := 1) hx hb dL_about_15 (by decide) ?_
    exact hend 1 L f _ _ _ _ _ _ (GR.rf hN) (Or.inr ⟨_, hxe, rfl, rfl, ⟨rfl, rfl⟩⟩) hP hS (Nat.le_of_ble_eq_true rfl) (Nat.le_of_ble_eq_true rfl) dL_about_16
  · refine lv_i2l (v := v.toInt64) hx hb dL_about_8 rfl ?_
    refine pj_ast hx hb hK hP hN hA hS hLoj (hPoj _ _ hr) dL_about_9 (fun H locs hP hS => ?_)
    refine lv_goto (tgt := 17) hx hb dL_about_10 (by decide) ?_
    refine lv_iconst (v := 0) hx hb dL_about_17 (by decide) ?_
    exact hend 0 L _ _ _ _ _ _ _ (GR.rf hN) (Or.inl ⟨rfl, rfl, v, f1, hr, rfl⟩) hP hS (Nat.le_of_ble_eq_true rfl) (Nat.le_of_ble_eq_true rfl) dL_about_18
set_option maxHeartbeats 4000000 in
set_option maxRecDepth 100000 in
theorem c_at (l : Launch) (g : GG) (L : List Nat) (f : Nat → va_E) (sz : Nat) (hN : L.Nodup) (t : Nat) (lo oj : Nat) (x : Int32) (w : Nat → Int64) (P : Int32 → (Nat → va_E) → Prop) (xc : String → Prop) (hM : ∀ sz, TW l g yX4_at wsX4_at 7 111 7 42 L f sz [.ref lo, .int x] P xc) (hLlo : lo ∈ L) {fs : List Value} (hflo : f lo = eO 5 fs) (hLoj : oj ∈ L) (hPoj : ∀ r f1, P r f1 → f1 oj = eJ g 1 w) (hxc : ∀ E, xc E → E = "java/lang/IndexOutOfBoundsException") : LW l g yL_at wsL_at 8 133 7 42 t L f sz [.ref lo, .int x, .ref oj] (fun r L2 f2 => (r = 0 ∧ L2 = L ∧ ∃ v f1, P v f1 ∧ f2 = va_up f1 oj (eJ g 1 (fun _ => v.toInt64))) ∨ (∃ E, xc E ∧ L2 = L ∧ f2 = f ∧ ((E = "java/lang/IndexOutOfBoundsException" ∧ r = 1)))) := by
  refine LW.start (cc := cL_at) (maxL := 4) (hh := [(0, 9, 12, 13)]) (by decide) rfl (by simp [lg_sl, Value.category]) ?_
  intro p e s m args below meth c Q ls hx hb hml hts hown htab hS hP hK hZ hDS hNC hl hend
  have hl : lv_has ls 4 [(0, .ref lo), (1, .int x), (2, .ref oj)] := hl
  have hA : ∀ a ∈ L, AA L s.heap.size a := fun _ h => Or.inl h
  refine lv_aload_n hx hb dL_at_0 rfl (lv_at hl 2 rfl) ?_
  refine lv_iconst (v := 0) hx hb dL_at_1 (by decide) ?_
  refine lv_aload_n hx hb dL_at_2 rfl (lv_at hl 0 rfl) ?_
  refine lv_iload_n hx hb dL_at_3 rfl (lv_at hl 1 rfl) ?_
  refine tw_V (As := [.int x]) (rest := [.int 0, .ref oj]) ⟨hx, hb, hml, hown, hts⟩ (hM _) (cwV 1 hts gL_at_X4_at rfl rfl rfl (by decide +kernel) ⟨Nat.le_of_ble_eq_true rfl, Nat.le_of_ble_eq_true rfl⟩) hK hZ hP hS hLlo hflo rfl rfl hl.1 rfl (Nat.le_of_ble_eq_true rfl) dL_at_4 ⟨Nat.le_of_ble_eq_true rfl, Nat.le_of_ble_eq_true rfl⟩ (fun E ce q9 H locs hxe hP hS hce hcv hcl => ?_) (fun v f1 H locs hr hP hS => ?_)
  · obtain rfl := hxc E hxe
    refine vx_catch (name := "java/lang/IndexOutOfBoundsException") hown [] ⟨0, 9, 12, 13⟩ [] htab (fun _ h => absurd h List.not_mem_nil) (by decide) (by decide) (hts (.classLink RL 13 "java/lang/IndexOutOfBoundsException") (by decide +kernel)) (hK.nest 56 rfl) hce hcv hcl ?_
    refine lv_astore_n (lv' := [(3, .ref q9), (0, .ref lo), (1, .int x), (2, .ref oj)]) hx hb dL_at_12 rfl hl (by decide) rfl (fun ls hl => ?_)
    refine lv_iconst (v := 1) hx hb dL_at_13 (by decide) ?_
    exact hend 1 L f _ _ _ _ _ _ (GR.rf hN) (Or.inr ⟨_, hxe, rfl, rfl, ⟨rfl, rfl⟩⟩) hP hS (Nat.le_of_ble_eq_true rfl) (Nat.le_of_ble_eq_true rfl) dL_at_14
  · refine lv_i2l (v := v.toInt64) hx hb dL_at_7 rfl ?_
    refine pj_ast hx hb hK hP hN hA hS hLoj (hPoj _ _ hr) dL_at_8 (fun H locs hP hS => ?_)
    refine lv_goto (tgt := 15) hx hb dL_at_9 (by decide) ?_
    refine lv_iconst (v := 0) hx hb dL_at_15 (by decide) ?_
    exact hend 0 L _ _ _ _ _ _ _ (GR.rf hN) (Or.inl ⟨rfl, rfl, v, f1, hr, rfl⟩) hP hS (Nat.le_of_ble_eq_true rfl) (Nat.le_of_ble_eq_true rfl) dL_at_16
set_option maxHeartbeats 4000000 in
set_option maxRecDepth 100000 in
theorem c_count (l : Launch) (g : GG) (L : List Nat) (f : Nat → va_E) (sz : Nat) (hN : L.Nodup) (t : Nat) (lo oj : Nat) (x : Int32) (w : Nat → Int64) (P : Int32 → (Nat → va_E) → Prop) (xc : String → Prop) (hM : ∀ sz, TW l g yX4_count wsX4_count 7 113 1 6 L f sz [.ref lo, .int x] P xc) (hLlo : lo ∈ L) {fs : List Value} (hflo : f lo = eO 5 fs) (hLoj : oj ∈ L) (hPoj : ∀ r f1, P r f1 → f1 oj = eJ g 1 w) (hxc : ∀ E, xc E → E = "java/lang/IndexOutOfBoundsException") : LW l g yL_count wsL_count 8 134 1 6 t L f sz [.ref lo, .int x, .ref oj] (fun r L2 f2 => (r = 0 ∧ L2 = L ∧ ∃ v f1, P v f1 ∧ f2 = va_up f1 oj (eJ g 1 (fun _ => v.toInt64))) ∨ (∃ E, xc E ∧ L2 = L ∧ f2 = f ∧ ((E = "java/lang/IndexOutOfBoundsException" ∧ r = 1)))) := by
  refine LW.start (cc := cL_count) (maxL := 4) (hh := [(0, 9, 12, 13)]) (by decide) rfl (by simp [lg_sl, Value.category]) ?_
  intro p e s m args below meth c Q ls hx hb hml hts hown htab hS hP hK hZ hDS hNC hl hend
  have hl : lv_has ls 4 [(0, .ref lo), (1, .int x), (2, .ref oj)] := hl
  have hA : ∀ a ∈ L, AA L s.heap.size a := fun _ h => Or.inl h
  refine lv_aload_n hx hb dL_count_0 rfl (lv_at hl 2 rfl) ?_
  refine lv_iconst (v := 0) hx hb dL_count_1 (by decide) ?_
  refine lv_aload_n hx hb dL_count_2 rfl (lv_at hl 0 rfl) ?_
  refine lv_iload_n hx hb dL_count_3 rfl (lv_at hl 1 rfl) ?_
  refine tw_V (As := [.int x]) (rest := [.int 0, .ref oj]) ⟨hx, hb, hml, hown, hts⟩ (hM _) (cwV 1 hts gL_count_X4_count rfl rfl rfl (by decide +kernel) ⟨Nat.le_of_ble_eq_true rfl, Nat.le_of_ble_eq_true rfl⟩) hK hZ hP hS hLlo hflo rfl rfl hl.1 rfl (Nat.le_of_ble_eq_true rfl) dL_count_4 ⟨Nat.le_of_ble_eq_true rfl, Nat.le_of_ble_eq_true rfl⟩ (fun E ce q9 H locs hxe hP hS hce hcv hcl => ?_) (fun v f1 H locs hr hP hS => ?_)
  · obtain rfl := hxc E hxe
    refine vx_catch (name := "java/lang/IndexOutOfBoundsException") hown [] ⟨0, 9, 12, 13⟩ [] htab (fun _ h => absurd h List.not_mem_nil) (by decide) (by decide) (hts (.classLink RL 13 "java/lang/IndexOutOfBoundsException") (by decide +kernel)) (hK.nest 56 rfl) hce hcv hcl ?_
    refine lv_astore_n (lv' := [(3, .ref q9), (0, .ref lo), (1, .int x), (2, .ref oj)]) hx hb dL_count_12 rfl hl (by decide) rfl (fun ls hl => ?_)
    refine lv_iconst (v := 1) hx hb dL_count_13 (by decide) ?_
    exact hend 1 L f _ _ _ _ _ _ (GR.rf hN) (Or.inr ⟨_, hxe, rfl, rfl, ⟨rfl, rfl⟩⟩) hP hS (Nat.le_of_ble_eq_true rfl) (Nat.le_of_ble_eq_true rfl) dL_count_14
  · refine lv_i2l (v := v.toInt64) hx hb dL_count_7 rfl ?_
    refine pj_ast hx hb hK hP hN hA hS hLoj (hPoj _ _ hr) dL_count_8 (fun H locs hP hS => ?_)
    refine lv_goto (tgt := 15) hx hb dL_count_9 (by decide) ?_
    refine lv_iconst (v := 0) hx hb dL_count_15 (by decide) ?_
    exact hend 0 L _ _ _ _ _ _ _ (GR.rf hN) (Or.inl ⟨rfl, rfl, v, f1, hr, rfl⟩) hP hS (Nat.le_of_ble_eq_true rfl) (Nat.le_of_ble_eq_true rfl) dL_count_16
set_option maxHeartbeats 4000000 in
set_option maxRecDepth 100000 in
theorem c_pass (l : Launch) (g : GG) (L : List Nat) (f : Nat → va_E) (sz : Nat) (hN : L.Nodup) (t : Nat) (lo oj : Nat) (x : Int32) (w : Nat → Int64) (P : Int32 → (Nat → va_E) → Prop) (xc : String → Prop) (hM : ∀ sz, TW l g yX4_pass wsX4_pass 7 137 1 6 L f sz [.ref lo, .int x] P xc) (hLlo : lo ∈ L) {fs : List Value} (hflo : f lo = eO 5 fs) (hLoj : oj ∈ L) (hPoj : ∀ r f1, P r f1 → f1 oj = eJ g 1 w) (hxc : ∀ E, xc E → E = "java/lang/IllegalArgumentException") : LW l g yL_pass wsL_pass 8 159 1 6 t L f sz [.ref lo, .int x, .ref oj] (fun r L2 f2 => (r = 0 ∧ L2 = L ∧ ∃ v f1, P v f1 ∧ f2 = va_up f1 oj (eJ g 1 (fun _ => v.toInt64))) ∨ (∃ E, xc E ∧ L2 = L ∧ f2 = f ∧ ((E = "java/lang/IllegalArgumentException" ∧ r = 1)))) := by
  refine LW.start (cc := cL_pass) (maxL := 4) (hh := [(0, 9, 12, 15)]) (by decide) rfl (by simp [lg_sl, Value.category]) ?_
  intro p e s m args below meth c Q ls hx hb hml hts hown htab hS hP hK hZ hDS hNC hl hend
  have hl : lv_has ls 4 [(0, .ref lo), (1, .int x), (2, .ref oj)] := hl
  have hA : ∀ a ∈ L, AA L s.heap.size a := fun _ h => Or.inl h
  refine lv_aload_n hx hb dL_pass_0 rfl (lv_at hl 2 rfl) ?_
  refine lv_iconst (v := 0) hx hb dL_pass_1 (by decide) ?_
  refine lv_aload_n hx hb dL_pass_2 rfl (lv_at hl 0 rfl) ?_
  refine lv_iload_n hx hb dL_pass_3 rfl (lv_at hl 1 rfl) ?_
  refine tw_V (As := [.int x]) (rest := [.int 0, .ref oj]) ⟨hx, hb, hml, hown, hts⟩ (hM _) (cwV 1 hts gL_pass_X4_pass rfl rfl rfl (by decide +kernel) ⟨Nat.le_of_ble_eq_true rfl, Nat.le_of_ble_eq_true rfl⟩) hK hZ hP hS hLlo hflo rfl rfl hl.1 rfl (Nat.le_of_ble_eq_true rfl) dL_pass_4 ⟨Nat.le_of_ble_eq_true rfl, Nat.le_of_ble_eq_true rfl⟩ (fun E ce q9 H locs hxe hP hS hce hcv hcl => ?_) (fun v f1 H locs hr hP hS => ?_)
  · obtain rfl := hxc E hxe
    refine vx_catch (name := "java/lang/IllegalArgumentException") hown [] ⟨0, 9, 12, 15⟩ [] htab (fun _ h => absurd h List.not_mem_nil) (by decide) (by decide) (hts (.classLink RL 15 "java/lang/IllegalArgumentException") (by decide +kernel)) (hK.nest 57 rfl) hce hcv hcl ?_
    refine lv_astore_n (lv' := [(3, .ref q9), (0, .ref lo), (1, .int x), (2, .ref oj)]) hx hb dL_pass_12 rfl hl (by decide) rfl (fun ls hl => ?_)
    refine lv_iconst (v := 1) hx hb dL_pass_13 (by decide) ?_
    exact hend 1 L f _ _ _ _ _ _ (GR.rf hN) (Or.inr ⟨_, hxe, rfl, rfl, ⟨rfl, rfl⟩⟩) hP hS (Nat.le_of_ble_eq_true rfl) (Nat.le_of_ble_eq_true rfl) dL_pass_14
  · refine lv_i2l (v := v.toInt64) hx hb dL_pass_7 rfl ?_
    refine pj_ast hx hb hK hP hN hA hS hLoj (hPoj _ _ hr) dL_pass_8 (fun H locs hP hS => ?_)
    refine lv_goto (tgt := 15) hx hb dL_pass_9 (by decide) ?_
    refine lv_iconst (v := 0) hx hb dL_pass_15 (by decide) ?_
    exact hend 0 L _ _ _ _ _ _ _ (GR.rf hN) (Or.inl ⟨rfl, rfl, v, f1, hr, rfl⟩) hP hS (Nat.le_of_ble_eq_true rfl) (Nat.le_of_ble_eq_true rfl) dL_pass_16
set_option maxHeartbeats 4000000 in
set_option maxRecDepth 100000 in
theorem c_foresee (l : Launch) (g : GG) (L : List Nat) (f : Nat → va_E) (sz : Nat) (hN : L.Nodup) (t : Nat) (lo oj : Nat) (x y : Int32) (w : Nat → Int64) (P : Int32 → (Nat → va_E) → Prop) (xc : String → Prop) (hM : ∀ sz, TW l g yX4_foresee wsX4_foresee 7 137 8 48 L f sz [.ref lo, .int x, .int y] P xc) (hLlo : lo ∈ L) {fs : List Value} (hflo : f lo = eO 5 fs) (hLoj : oj ∈ L) (hPoj : ∀ r f1, P r f1 → f1 oj = eJ g 1 w) (hxc : ∀ E, xc E → E = "java/lang/IllegalArgumentException" ∨ E = "java/lang/IndexOutOfBoundsException") : LW l g yL_foresee wsL_foresee 8 160 8 48 t L f sz [.ref lo, .int x, .int y, .ref oj] (fun r L2 f2 => (r = 0 ∧ L2 = L ∧ ∃ v f1, P v f1 ∧ f2 = va_up f1 oj (eJ g 1 (fun _ => v.toInt64))) ∨ (∃ E, xc E ∧ L2 = L ∧ f2 = f ∧ ((E = "java/lang/IllegalArgumentException" ∧ r = 1) ∨ (E = "java/lang/IndexOutOfBoundsException" ∧ r = 2)))) := by
  refine LW.start (cc := cL_foresee) (maxL := 5) (hh := [(0, 10, 13, 15), (0, 10, 17, 13)]) (by decide) rfl (by simp [lg_sl, Value.category]) ?_
  intro p e s m args below meth c Q ls hx hb hml hts hown htab hS hP hK hZ hDS hNC hl hend
  have hl : lv_has ls 5 [(0, .ref lo), (1, .int x), (2, .int y), (3, .ref oj)] := hl
  have hA : ∀ a ∈ L, AA L s.heap.size a := fun _ h => Or.inl h
  refine lv_aload_n hx hb dL_foresee_0 rfl (lv_at hl 3 rfl) ?_
  refine lv_iconst (v := 0) hx hb dL_foresee_1 (by decide) ?_
  refine lv_aload_n hx hb dL_foresee_2 rfl (lv_at hl 0 rfl) ?_
  refine lv_iload_n hx hb dL_foresee_3 rfl (lv_at hl 1 rfl) ?_
  refine lv_iload_n hx hb dL_foresee_4 rfl (lv_at hl 2 rfl) ?_
  refine tw_V (As := [.int x, .int y]) (rest := [.int 0, .ref oj]) ⟨hx, hb, hml, hown, hts⟩ (hM _) (cwV 2 hts gL_foresee_X4_foresee rfl rfl rfl (by decide +kernel) ⟨Nat.le_of_ble_eq_true rfl, Nat.le_of_ble_eq_true rfl⟩) hK hZ hP hS hLlo hflo rfl rfl hl.1 rfl (Nat.le_of_ble_eq_true rfl) dL_foresee_5 ⟨Nat.le_of_ble_eq_true rfl, Nat.le_of_ble_eq_true rfl⟩ (fun E ce q9 H locs hxe hP hS hce hcv hcl => ?_) (fun v f1 H locs hr hP hS => ?_)
  · rcases hxc E hxe with rfl | rfl
    · refine vx_catch (name := "java/lang/IllegalArgumentException") hown [] ⟨0, 10, 13, 15⟩ [⟨0, 10, 17, 13⟩] htab (fun _ h => absurd h List.not_mem_nil) (by decide) (by decide) (hts (.classLink RL 15 "java/lang/IllegalArgumentException") (by decide +kernel)) (hK.nest 57 rfl) hce hcv hcl ?_
      refine lv_astore (lv' := [(4, .ref q9), (0, .ref lo), (1, .int x), (2, .int y), (3, .ref oj)]) hx hb dL_foresee_13 hl (by decide) rfl (fun ls hl => ?_)
      refine lv_iconst (v := 1) hx hb dL_foresee_15 (by decide) ?_
      exact hend 1 L f _ _ _ _ _ _ (GR.rf hN) (Or.inr ⟨_, hxe, rfl, rfl, Or.inl ⟨rfl, rfl⟩⟩) hP hS (Nat.le_of_ble_eq_true rfl) (Nat.le_of_ble_eq_true rfl) dL_foresee_16
    · refine vx_catch (name := "java/lang/IndexOutOfBoundsException") hown [⟨0, 10, 13, 15⟩] ⟨0, 10, 17, 13⟩ [] htab (fun z h => (List.mem_cons.mp h).elim (fun e9 => by subst e9; exact Or.inr ⟨by decide, "java/lang/IllegalArgumentException", hts (.classLink RL 15 "java/lang/IllegalArgumentException") (by decide +kernel), hNC.2.2.1⟩) (fun h => (fun _ h => absurd h List.not_mem_nil) z h)) (by decide) (by decide) (hts (.classLink RL 13 "java/lang/IndexOutOfBoundsException") (by decide +kernel)) (hK.nest 56 rfl) hce hcv hcl ?_
      refine lv_astore (lv' := [(4, .ref q9), (0, .ref lo), (1, .int x), (2, .int y), (3, .ref oj)]) hx hb dL_foresee_17 hl (by decide) rfl (fun ls hl => ?_)
      refine lv_iconst (v := 2) hx hb dL_foresee_19 (by decide) ?_
      exact hend 2 L f _ _ _ _ _ _ (GR.rf hN) (Or.inr ⟨_, hxe, rfl, rfl, Or.inr (⟨rfl, rfl⟩)⟩) hP hS (Nat.le_of_ble_eq_true rfl) (Nat.le_of_ble_eq_true rfl) dL_foresee_20
  · refine lv_i2l (v := v.toInt64) hx hb dL_foresee_8 rfl ?_
    refine pj_ast hx hb hK hP hN hA hS hLoj (hPoj _ _ hr) dL_foresee_9 (fun H locs hP hS => ?_)
    refine lv_goto (tgt := 21) hx hb dL_foresee_10 (by decide) ?_
    refine lv_iconst (v := 0) hx hb dL_foresee_21 (by decide) ?_
    exact hend 0 L _ _ _ _ _ _ _ (GR.rf hN) (Or.inl ⟨rfl, rfl, v, f1, hr, rfl⟩) hP hS (Nat.le_of_ble_eq_true rfl) (Nat.le_of_ble_eq_true rfl) dL_foresee_22
set_option maxHeartbeats 4000000 in
set_option maxRecDepth 100000 in
theorem c_overtakes (l : Launch) (g : GG) (L : List Nat) (f : Nat → va_E) (sz : Nat) (hN : L.Nodup) (t : Nat) (lo oj : Nat) (x y : Int32) (w : Nat → Int64) (P : Int32 → (Nat → va_E) → Prop) (xc : String → Prop) (hM : ∀ sz, TW l g yX4_overtakes wsX4_overtakes 7 113 250 1500 L f sz [.ref lo, .int x, .int y] P xc) (hLlo : lo ∈ L) {fs : List Value} (hflo : f lo = eO 5 fs) (hLoj : oj ∈ L) (hPoj : ∀ r f1, P r f1 → f1 oj = eJ g 1 w) (hxc : ∀ E, xc E → E = "java/lang/IndexOutOfBoundsException" ∨ E = "java/lang/IllegalArgumentException") : LW l g yL_overtakes wsL_overtakes 8 138 250 1500 t L f sz [.ref lo, .int x, .int y, .ref oj] (fun r L2 f2 => (r = 0 ∧ L2 = L ∧ ∃ v f1, P v f1 ∧ f2 = va_up f1 oj (eJ g 1 (fun _ => v.toInt64))) ∨ (∃ E, xc E ∧ L2 = L ∧ f2 = f ∧ ((E = "java/lang/IndexOutOfBoundsException" ∧ r = 1) ∨ (E = "java/lang/IllegalArgumentException" ∧ r = 2)))) := by
  refine LW.start (cc := cL_overtakes) (maxL := 5) (hh := [(0, 10, 13, 13), (0, 10, 17, 15)]) (by decide) rfl (by simp [lg_sl, Value.category]) ?_
  intro p e s m args below meth c Q ls hx hb hml hts hown htab hS hP hK hZ hDS hNC hl hend
  have hl : lv_has ls 5 [(0, .ref lo), (1, .int x), (2, .int y), (3, .ref oj)] := hl
  have hA : ∀ a ∈ L, AA L s.heap.size a := fun _ h => Or.inl h
  refine lv_aload_n hx hb dL_overtakes_0 rfl (lv_at hl 3 rfl) ?_
  refine lv_iconst (v := 0) hx hb dL_overtakes_1 (by decide) ?_
  refine lv_aload_n hx hb dL_overtakes_2 rfl (lv_at hl 0 rfl) ?_
  refine lv_iload_n hx hb dL_overtakes_3 rfl (lv_at hl 1 rfl) ?_
  refine lv_iload_n hx hb dL_overtakes_4 rfl (lv_at hl 2 rfl) ?_
  refine tw_V (As := [.int x, .int y]) (rest := [.int 0, .ref oj]) ⟨hx, hb, hml, hown, hts⟩ (hM _) (cwV 2 hts gL_overtakes_X4_overtakes rfl rfl rfl (by decide +kernel) ⟨Nat.le_of_ble_eq_true rfl, Nat.le_of_ble_eq_true rfl⟩) hK hZ hP hS hLlo hflo rfl rfl hl.1 rfl (Nat.le_of_ble_eq_true rfl) dL_overtakes_5 ⟨Nat.le_of_ble_eq_true rfl, Nat.le_of_ble_eq_true rfl⟩ (fun E ce q9 H locs hxe hP hS hce hcv hcl => ?_) (fun v f1 H locs hr hP hS => ?_)
  · rcases hxc E hxe with rfl | rfl
    · refine vx_catch (name := "java/lang/IndexOutOfBoundsException") hown [] ⟨0, 10, 13, 13⟩ [⟨0, 10, 17, 15⟩] htab (fun _ h => absurd h List.not_mem_nil) (by decide) (by decide) (hts (.classLink RL 13 "java/lang/IndexOutOfBoundsException") (by decide +kernel)) (hK.nest 56 rfl) hce hcv hcl ?_
      refine lv_astore (lv' := [(4, .ref q9), (0, .ref lo), (1, .int x), (2, .int y), (3, .ref oj)]) hx hb dL_overtakes_13 hl (by decide) rfl (fun ls hl => ?_)
      refine lv_iconst (v := 1) hx hb dL_overtakes_15 (by decide) ?_
      exact hend 1 L f _ _ _ _ _ _ (GR.rf hN) (Or.inr ⟨_, hxe, rfl, rfl, Or.inl ⟨rfl, rfl⟩⟩) hP hS (Nat.le_of_ble_eq_true rfl) (Nat.le_of_ble_eq_true rfl) dL_overtakes_16
    · refine vx_catch (name := "java/lang/IllegalArgumentException") hown [⟨0, 10, 13, 13⟩] ⟨0, 10, 17, 15⟩ [] htab (fun z h => (List.mem_cons.mp h).elim (fun e9 => by subst e9; exact Or.inr ⟨by decide, "java/lang/IndexOutOfBoundsException", hts (.classLink RL 13 "java/lang/IndexOutOfBoundsException") (by decide +kernel), hNC.1⟩) (fun h => (fun _ h => absurd h List.not_mem_nil) z h)) (by decide) (by decide) (hts (.classLink RL 15 "java/lang/IllegalArgumentException") (by decide +kernel)) (hK.nest 57 rfl) hce hcv hcl ?_
      refine lv_astore (lv' := [(4, .ref q9), (0, .ref lo), (1, .int x), (2, .int y), (3, .ref oj)]) hx hb dL_overtakes_17 hl (by decide) rfl (fun ls hl => ?_)
      refine lv_iconst (v := 2) hx hb dL_overtakes_19 (by decide) ?_
      exact hend 2 L f _ _ _ _ _ _ (GR.rf hN) (Or.inr ⟨_, hxe, rfl, rfl, Or.inr (⟨rfl, rfl⟩)⟩) hP hS (Nat.le_of_ble_eq_true rfl) (Nat.le_of_ble_eq_true rfl) dL_overtakes_20
  · refine lv_i2l (v := v.toInt64) hx hb dL_overtakes_8 rfl ?_
    refine pj_ast hx hb hK hP hN hA hS hLoj (hPoj _ _ hr) dL_overtakes_9 (fun H locs hP hS => ?_)
    refine lv_goto (tgt := 21) hx hb dL_overtakes_10 (by decide) ?_
    refine lv_iconst (v := 0) hx hb dL_overtakes_21 (by decide) ?_
    exact hend 0 L _ _ _ _ _ _ _ (GR.rf hN) (Or.inl ⟨rfl, rfl, v, f1, hr, rfl⟩) hP hS (Nat.le_of_ble_eq_true rfl) (Nat.le_of_ble_eq_true rfl) dL_overtakes_22
set_option maxHeartbeats 4000000 in
set_option maxRecDepth 100000 in
theorem c_advise (l : Launch) (g : GG) (L : List Nat) (f : Nat → va_E) (sz : Nat) (hN : L.Nodup) (t : Nat) (lo oj : Nat) (x y : Int32) (w : Nat → Int64) (P : Int32 → (Nat → va_E) → Prop) (xc : String → Prop) (hM : ∀ sz, TW l g yX4_advise wsX4_advise 7 137 40 240 L f sz [.ref lo, .int x, .int y] P xc) (hLlo : lo ∈ L) {fs : List Value} (hflo : f lo = eO 5 fs) (hLoj : oj ∈ L) (hPoj : ∀ r f1, P r f1 → f1 oj = eJ g 1 w) (hxc : ∀ E, xc E → E = "java/lang/IndexOutOfBoundsException" ∨ E = "java/lang/IllegalArgumentException") : LW l g yL_advise wsL_advise 8 162 40 240 t L f sz [.ref lo, .int x, .int y, .ref oj] (fun r L2 f2 => (r = 0 ∧ L2 = L ∧ ∃ v f1, P v f1 ∧ f2 = va_up f1 oj (eJ g 1 (fun _ => v.toInt64))) ∨ (∃ E, xc E ∧ L2 = L ∧ f2 = f ∧ ((E = "java/lang/IndexOutOfBoundsException" ∧ r = 1) ∨ (E = "java/lang/IllegalArgumentException" ∧ r = 2)))) := by
  refine LW.start (cc := cL_advise) (maxL := 5) (hh := [(0, 10, 13, 13), (0, 10, 17, 15)]) (by decide) rfl (by simp [lg_sl, Value.category]) ?_
  intro p e s m args below meth c Q ls hx hb hml hts hown htab hS hP hK hZ hDS hNC hl hend
  have hl : lv_has ls 5 [(0, .ref lo), (1, .int x), (2, .int y), (3, .ref oj)] := hl
  have hA : ∀ a ∈ L, AA L s.heap.size a := fun _ h => Or.inl h
  refine lv_aload_n hx hb dL_advise_0 rfl (lv_at hl 3 rfl) ?_
  refine lv_iconst (v := 0) hx hb dL_advise_1 (by decide) ?_
  refine lv_aload_n hx hb dL_advise_2 rfl (lv_at hl 0 rfl) ?_
  refine lv_iload_n hx hb dL_advise_3 rfl (lv_at hl 1 rfl) ?_
  refine lv_iload_n hx hb dL_advise_4 rfl (lv_at hl 2 rfl) ?_
  refine tw_V (As := [.int x, .int y]) (rest := [.int 0, .ref oj]) ⟨hx, hb, hml, hown, hts⟩ (hM _) (cwV 2 hts gL_advise_X4_advise rfl rfl rfl (by decide +kernel) ⟨Nat.le_of_ble_eq_true rfl, Nat.le_of_ble_eq_true rfl⟩) hK hZ hP hS hLlo hflo rfl rfl hl.1 rfl (Nat.le_of_ble_eq_true rfl) dL_advise_5 ⟨Nat.le_of_ble_eq_true rfl, Nat.le_of_ble_eq_true rfl⟩ (fun E ce q9 H locs hxe hP hS hce hcv hcl => ?_) (fun v f1 H locs hr hP hS => ?_)
  · rcases hxc E hxe with rfl | rfl
    · refine vx_catch (name := "java/lang/IndexOutOfBoundsException") hown [] ⟨0, 10, 13, 13⟩ [⟨0, 10, 17, 15⟩] htab (fun _ h => absurd h List.not_mem_nil) (by decide) (by decide) (hts (.classLink RL 13 "java/lang/IndexOutOfBoundsException") (by decide +kernel)) (hK.nest 56 rfl) hce hcv hcl ?_
      refine lv_astore (lv' := [(4, .ref q9), (0, .ref lo), (1, .int x), (2, .int y), (3, .ref oj)]) hx hb dL_advise_13 hl (by decide) rfl (fun ls hl => ?_)
      refine lv_iconst (v := 1) hx hb dL_advise_15 (by decide) ?_
      exact hend 1 L f _ _ _ _ _ _ (GR.rf hN) (Or.inr ⟨_, hxe, rfl, rfl, Or.inl ⟨rfl, rfl⟩⟩) hP hS (Nat.le_of_ble_eq_true rfl) (Nat.le_of_ble_eq_true rfl) dL_advise_16
    · refine vx_catch (name := "java/lang/IllegalArgumentException") hown [⟨0, 10, 13, 13⟩] ⟨0, 10, 17, 15⟩ [] htab (fun z h => (List.mem_cons.mp h).elim (fun e9 => by subst e9; exact Or.inr ⟨by decide, "java/lang/IndexOutOfBoundsException", hts (.classLink RL 13 "java/lang/IndexOutOfBoundsException") (by decide +kernel), hNC.1⟩) (fun h => (fun _ h => absurd h List.not_mem_nil) z h)) (by decide) (by decide) (hts (.classLink RL 15 "java/lang/IllegalArgumentException") (by decide +kernel)) (hK.nest 57 rfl) hce hcv hcl ?_
      refine lv_astore (lv' := [(4, .ref q9), (0, .ref lo), (1, .int x), (2, .int y), (3, .ref oj)]) hx hb dL_advise_17 hl (by decide) rfl (fun ls hl => ?_)
      refine lv_iconst (v := 2) hx hb dL_advise_19 (by decide) ?_
      exact hend 2 L f _ _ _ _ _ _ (GR.rf hN) (Or.inr ⟨_, hxe, rfl, rfl, Or.inr (⟨rfl, rfl⟩)⟩) hP hS (Nat.le_of_ble_eq_true rfl) (Nat.le_of_ble_eq_true rfl) dL_advise_20
  · refine lv_i2l (v := v.toInt64) hx hb dL_advise_8 rfl ?_
    refine pj_ast hx hb hK hP hN hA hS hLoj (hPoj _ _ hr) dL_advise_9 (fun H locs hP hS => ?_)
    refine lv_goto (tgt := 21) hx hb dL_advise_10 (by decide) ?_
    refine lv_iconst (v := 0) hx hb dL_advise_21 (by decide) ?_
    exact hend 0 L _ _ _ _ _ _ _ (GR.rf hN) (Or.inl ⟨rfl, rfl, v, f1, hr, rfl⟩) hP hS (Nat.le_of_ble_eq_true rfl) (Nat.le_of_ble_eq_true rfl) dL_advise_22
