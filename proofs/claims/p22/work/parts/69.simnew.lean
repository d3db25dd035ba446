/-! ===== the league by hand: what it makes ===== -/
theorem vilR_f {fa : Nat → Nat} {i : Nat} : va_up (vilR fa i) i (some (fa i)) = vilR fa (i + 1) := by
  rw [vilR_s]
  congr 1
  funext j
  unfold pushN
  by_cases h : j = i
  · rw [if_pos h, h]
  · rw [if_neg h]
def cntA (a b c x y z w : Int32) : Nat → Int32
  | 0 => a
  | 1 => b
  | 2 => c
  | 3 => x
  | 4 => y
  | 5 => z
  | 6 => w
  | _ => 0
theorem cn_0 {a b c : Int32} : upd (upd (upd (upd (upd (upd (upd (fun _ => 0) 0 a) 1 b) 2 c) 3 0) 4 0) 5 0) 6 0 = cntA a b c 0 0 0 0 := by
  funext j
  match j with
  | 0 => rfl
  | 1 => rfl
  | 2 => rfl
  | 3 => rfl
  | 4 => rfl
  | 5 => rfl
  | 6 => rfl
  | n + 7 =>
    simp only [upd]
    repeat rw [if_neg (by omega)]
    rfl
theorem cn3 {a b c x y z w v : Int32} : upd (cntA a b c x y z w) 3 v = cntA a b c v y z w := by
  funext j
  match j with
  | 0 => rfl
  | 1 => rfl
  | 2 => rfl
  | 3 => rfl
  | 4 => rfl
  | 5 => rfl
  | 6 => rfl
  | n + 7 => exact if_neg (by omega)
theorem cn4 {a b c x y z w v : Int32} : upd (cntA a b c x y z w) 4 v = cntA a b c x v z w := by
  funext j
  match j with
  | 0 => rfl
  | 1 => rfl
  | 2 => rfl
  | 3 => rfl
  | 4 => rfl
  | 5 => rfl
  | 6 => rfl
  | n + 7 => exact if_neg (by omega)
theorem cn5 {a b c x y z w v : Int32} : upd (cntA a b c x y z w) 5 v = cntA a b c x y v w := by
  funext j
  match j with
  | 0 => rfl
  | 1 => rfl
  | 2 => rfl
  | 3 => rfl
  | 4 => rfl
  | 5 => rfl
  | 6 => rfl
  | n + 7 => exact if_neg (by omega)
theorem cn6 {a b c x y z w v : Int32} : upd (cntA a b c x y z w) 6 v = cntA a b c x y z v := by
  funext j
  match j with
  | 0 => rfl
  | 1 => rfl
  | 2 => rfl
  | 3 => rfl
  | 4 => rfl
  | 5 => rfl
  | 6 => rfl
  | n + 7 => exact if_neg (by omega)
theorem gu_t {x : Int32} (h : ¬ x ≤ 0) : (1 : Int32) = b2i (decide (0 < x)) := by rw [decide_eq_true (Int32.not_le.mp h)]; rfl
theorem gu_f {x : Int32} (h : x ≤ 0) : (0 : Int32) = b2i (decide (0 < x)) := by rw [decide_eq_false (Int32.not_lt.mpr h)]; rfl
theorem rn_t {x : Int32} (hr : ∃ b, x = b2i b) (h : ¬ x = 0) : (1 : Int32) = x := (bool1 hr h).symm
theorem rn_f {x : Int32} (hr : ∃ b, x = b2i b) (h : x = 0) : (0 : Int32) = x := h.symm
set_option maxHeartbeats 4000000 in
set_option maxRecDepth 100000 in
theorem m_X5_init (l : Launch) (g : GG) (L : List Nat) (f : Nat → va_E) (sz : Nat) (hN : L.Nodup) (t : Nat) (sm : Nat) (hL_sm : sm ∈ L) (hf_sm : f sm = eO 6 [.int 0, .null, .null, .null, .null, .null]) : AV l g yX5_init wsX5_init 1 13 5 300 t L f sz [.ref sm] (fun L2 f2 => ∃ q1 q2 q3 q4 q5, q1 ≠ q2 ∧ q1 ∈ L2 ∧ q2 ∈ L2 ∧ q3 ∈ L2 ∧ q4 ∈ L2 ∧ q5 ∈ L2 ∧ sm ∈ L2 ∧ f2 sm = eO 6 [.int 0, .ref q1, .ref q2, .ref q3, .ref q4, .ref q5] ∧ (∃ z, f2 q1 = eI g 12 z ∧ ∀ i, i < 12 → z i = 30) ∧ f2 q2 = eZ g 12 (fun _ => 0) ∧ f2 q3 = eR g 0 (fun _ => none) ∧ f2 q4 = eR g 0 (fun _ => none) ∧ f2 q5 = eR g 0 (fun _ => none)) := by
  refine AV.start (cc := cX5_init) (maxL := 1) (by decide +kernel) rfl (by simp [lg_sl, Value.category]) ?_
  intro p e s m args below meth c Q ls hx hb hml hts hown hnm hS hP hK hDS hl hend
  have hA : ∀ a ∈ L, AA L s.heap.size a := fun _ h => Or.inl h
  have hA2 : ∀ q, s.heap.size ≤ q → AA L s.heap.size q := fun _ h => Or.inr h
  have hSub : ∀ a ∈ L, a ∈ L := fun _ h => h
  have hl : lv_has ls 1 [(0, .ref sm)] := hl
  have hi_X5 : ∀ w ∈ u_ws RX5 TX5 6, w ∈ wsX5_init := by decide +kernel
  have hFr : FrN L f f [sm] := FrN.rf
  have h0f_sm := hf_sm
  refine lv_aload_n hx hb dX5_init_0 rfl (lv_at hl 0 rfl) ?_
  refine W.objInit hx hb hown (hts (.methodLink RX5 1 objectInit) (by decide +kernel)) (hts (.instanceMethod objectInit) (by decide +kernel)) (hts _ (List.mem_of_getElem? (i := 3) rfl)) rfl (by rw [hml]; exact hl.1) rfl dX5_init_1 (Nat.le_of_ble_eq_true rfl) (Nat.le_of_ble_eq_true rfl) ?_
  refine W.eq (g2 := F0 m 4 ls []) rfl ?_
  refine lv_aload_n hx hb dX5_init_4 rfl (lv_at hl 0 rfl) ?_
  refine lv_bipush (v := 12) hx hb dX5_init_5 (by decide) ?_
  refine pg_newaI hx hb (hts (.arrayClass .int) (by decide +kernel)) hK hP hN hA hA2 hS (k := 12) rfl (by omega) (by show 0 + 1 ≤ 5; omega) (by show 60 * (0) + 12 ≤ 300; omega) dX5_init_7 (fun q7 H hn0_q7 hA_q7 hP hS => ?_)
  obtain ⟨L7, eL7⟩ : ∃ z, z = q7 :: L := ⟨_, rfl⟩
  obtain ⟨f7, ef7⟩ : ∃ z, z = va_up f q7 (eI g 12 (fun _ => 0)) := ⟨_, rfl⟩
  rw [← eL7, ← ef7] at hP
  have hn_q7 : q7 ∉ L := fun h => hn0_q7 (hSub _ h)
  have n_sm_q7 : sm ≠ q7 := fun z => hn0_q7 (z ▸ hL_sm)
  have hf_sm : f7 sm = eO 6 [.int 0, .null, .null, .null, .null, .null] := by rw [ef7, va_up_ne _ _ n_sm_q7]; exact hf_sm
  have hL_sm : sm ∈ L7 := by rw [eL7]; exact List.mem_cons_of_mem _ hL_sm
  have hf_q7 : f7 q7 = eI g 12 (fun _ => 0) := by rw [ef7]; exact va_up_self _ _ _
  have hL_q7 : q7 ∈ L7 := by rw [eL7]; exact List.mem_cons_self
  have hN : L7.Nodup := by rw [eL7]; exact List.nodup_cons.mpr ⟨hn0_q7, hN⟩
  have hA : ∀ a ∈ L7, AA L s.heap.size a := by rw [eL7]; exact fa_c hA_q7 hA
  have hSub : ∀ a ∈ L, a ∈ L7 := by rw [eL7]; exact fun a h => List.mem_cons_of_mem _ (hSub a h)
  replace hFr : FrN L f f7 [sm] := by rw [ef7]; exact hFr.up (Or.inr hn_q7)
  refine W.widen (k := 1) (n := 60 * (1)) (by omega) (by omega) ?_
  refine lv_dup hx hb dX5_init_9 rfl ?_
  refine lv_iconst (v := 0) hx hb dX5_init_10 (by decide) ?_
  refine lv_bipush (v := 30) hx hb dX5_init_11 (by decide) ?_
  refine pn_iast (j := 0) hx hb hK hP hN hA hS hL_q7 hf_q7 rfl (by omega) (Nat.lt_of_lt_of_le (m := 100) (by omega) (by omega)) dX5_init_13 (fun H locs hP hS => ?_)
  obtain ⟨f13, ef13⟩ : ∃ z, z = va_up f7 q7 (eI g 12 (upd (fun _ => 0) 0 30)) := ⟨_, rfl⟩
  replace hP : PP g L7 f13 H := by rw [ef13]; exact hP
  have hf_sm : f13 sm = eO 6 [.int 0, .null, .null, .null, .null, .null] := by rw [ef13, va_up_ne _ _ n_sm_q7]; exact hf_sm
  have hf_q7 : f13 q7 = eI g 12 (upd (fun _ => 0) 0 30) := by rw [ef13]; exact va_up_self _ _ _
  replace hFr : FrN L f f13 [sm] := by rw [ef13]; exact hFr.up (Or.inr hn_q7)
  refine lv_dup hx hb dX5_init_14 rfl ?_
  refine lv_iconst (v := 1) hx hb dX5_init_15 (by decide) ?_
  refine lv_bipush (v := 30) hx hb dX5_init_16 (by decide) ?_
  refine pn_iast (j := 1) hx hb hK hP hN hA hS hL_q7 hf_q7 rfl (by omega) (Nat.lt_of_lt_of_le (m := 100) (by omega) (by omega)) dX5_init_18 (fun H locs hP hS => ?_)
  obtain ⟨f18, ef18⟩ : ∃ z, z = va_up f13 q7 (eI g 12 (upd (upd (fun _ => 0) 0 30) 1 30)) := ⟨_, rfl⟩
  replace hP : PP g L7 f18 H := by rw [ef18]; exact hP
  have hf_sm : f18 sm = eO 6 [.int 0, .null, .null, .null, .null, .null] := by rw [ef18, va_up_ne _ _ n_sm_q7]; exact hf_sm
  have hf_q7 : f18 q7 = eI g 12 (upd (upd (fun _ => 0) 0 30) 1 30) := by rw [ef18]; exact va_up_self _ _ _
  replace hFr : FrN L f f18 [sm] := by rw [ef18]; exact hFr.up (Or.inr hn_q7)
  refine lv_dup hx hb dX5_init_19 rfl ?_
  refine lv_iconst (v := 2) hx hb dX5_init_20 (by decide) ?_
  refine lv_bipush (v := 30) hx hb dX5_init_21 (by decide) ?_
  refine pn_iast (j := 2) hx hb hK hP hN hA hS hL_q7 hf_q7 rfl (by omega) (Nat.lt_of_lt_of_le (m := 100) (by omega) (by omega)) dX5_init_23 (fun H locs hP hS => ?_)
  obtain ⟨f23, ef23⟩ : ∃ z, z = va_up f18 q7 (eI g 12 (upd (upd (upd (fun _ => 0) 0 30) 1 30) 2 30)) := ⟨_, rfl⟩
  replace hP : PP g L7 f23 H := by rw [ef23]; exact hP
  have hf_sm : f23 sm = eO 6 [.int 0, .null, .null, .null, .null, .null] := by rw [ef23, va_up_ne _ _ n_sm_q7]; exact hf_sm
  have hf_q7 : f23 q7 = eI g 12 (upd (upd (upd (fun _ => 0) 0 30) 1 30) 2 30) := by rw [ef23]; exact va_up_self _ _ _
  replace hFr : FrN L f f23 [sm] := by rw [ef23]; exact hFr.up (Or.inr hn_q7)
  refine lv_dup hx hb dX5_init_24 rfl ?_
  refine lv_iconst (v := 3) hx hb dX5_init_25 (by decide) ?_
  refine lv_bipush (v := 30) hx hb dX5_init_26 (by decide) ?_
  refine pn_iast (j := 3) hx hb hK hP hN hA hS hL_q7 hf_q7 rfl (by omega) (Nat.lt_of_lt_of_le (m := 100) (by omega) (by omega)) dX5_init_28 (fun H locs hP hS => ?_)
  obtain ⟨f28, ef28⟩ : ∃ z, z = va_up f23 q7 (eI g 12 (upd (upd (upd (upd (fun _ => 0) 0 30) 1 30) 2 30) 3 30)) := ⟨_, rfl⟩
  replace hP : PP g L7 f28 H := by rw [ef28]; exact hP
  have hf_sm : f28 sm = eO 6 [.int 0, .null, .null, .null, .null, .null] := by rw [ef28, va_up_ne _ _ n_sm_q7]; exact hf_sm
  have hf_q7 : f28 q7 = eI g 12 (upd (upd (upd (upd (fun _ => 0) 0 30) 1 30) 2 30) 3 30) := by rw [ef28]; exact va_up_self _ _ _
  replace hFr : FrN L f f28 [sm] := by rw [ef28]; exact hFr.up (Or.inr hn_q7)
  refine lv_dup hx hb dX5_init_29 rfl ?_
  refine lv_iconst (v := 4) hx hb dX5_init_30 (by decide) ?_
  refine lv_bipush (v := 30) hx hb dX5_init_31 (by decide) ?_
  refine pn_iast (j := 4) hx hb hK hP hN hA hS hL_q7 hf_q7 rfl (by omega) (Nat.lt_of_lt_of_le (m := 100) (by omega) (by omega)) dX5_init_33 (fun H locs hP hS => ?_)
  obtain ⟨f33, ef33⟩ : ∃ z, z = va_up f28 q7 (eI g 12 (upd (upd (upd (upd (upd (fun _ => 0) 0 30) 1 30) 2 30) 3 30) 4 30)) := ⟨_, rfl⟩
  replace hP : PP g L7 f33 H := by rw [ef33]; exact hP
  have hf_sm : f33 sm = eO 6 [.int 0, .null, .null, .null, .null, .null] := by rw [ef33, va_up_ne _ _ n_sm_q7]; exact hf_sm
  have hf_q7 : f33 q7 = eI g 12 (upd (upd (upd (upd (upd (fun _ => 0) 0 30) 1 30) 2 30) 3 30) 4 30) := by rw [ef33]; exact va_up_self _ _ _
  replace hFr : FrN L f f33 [sm] := by rw [ef33]; exact hFr.up (Or.inr hn_q7)
  refine lv_dup hx hb dX5_init_34 rfl ?_
  refine lv_iconst (v := 5) hx hb dX5_init_35 (by decide) ?_
  refine lv_bipush (v := 30) hx hb dX5_init_36 (by decide) ?_
  refine pn_iast (j := 5) hx hb hK hP hN hA hS hL_q7 hf_q7 rfl (by omega) (Nat.lt_of_lt_of_le (m := 100) (by omega) (by omega)) dX5_init_38 (fun H locs hP hS => ?_)
  obtain ⟨f38, ef38⟩ : ∃ z, z = va_up f33 q7 (eI g 12 (upd (upd (upd (upd (upd (upd (fun _ => 0) 0 30) 1 30) 2 30) 3 30) 4 30) 5 30)) := ⟨_, rfl⟩
  replace hP : PP g L7 f38 H := by rw [ef38]; exact hP
  have hf_sm : f38 sm = eO 6 [.int 0, .null, .null, .null, .null, .null] := by rw [ef38, va_up_ne _ _ n_sm_q7]; exact hf_sm
  have hf_q7 : f38 q7 = eI g 12 (upd (upd (upd (upd (upd (upd (fun _ => 0) 0 30) 1 30) 2 30) 3 30) 4 30) 5 30) := by rw [ef38]; exact va_up_self _ _ _
  replace hFr : FrN L f f38 [sm] := by rw [ef38]; exact hFr.up (Or.inr hn_q7)
  refine lv_dup hx hb dX5_init_39 rfl ?_
  refine lv_bipush (v := 6) hx hb dX5_init_40 (by decide) ?_
  refine lv_bipush (v := 30) hx hb dX5_init_42 (by decide) ?_
  refine pn_iast (j := 6) hx hb hK hP hN hA hS hL_q7 hf_q7 rfl (by omega) (Nat.lt_of_lt_of_le (m := 100) (by omega) (by omega)) dX5_init_44 (fun H locs hP hS => ?_)
  obtain ⟨f44, ef44⟩ : ∃ z, z = va_up f38 q7 (eI g 12 (upd (upd (upd (upd (upd (upd (upd (fun _ => 0) 0 30) 1 30) 2 30) 3 30) 4 30) 5 30) 6 30)) := ⟨_, rfl⟩
  replace hP : PP g L7 f44 H := by rw [ef44]; exact hP
  have hf_sm : f44 sm = eO 6 [.int 0, .null, .null, .null, .null, .null] := by rw [ef44, va_up_ne _ _ n_sm_q7]; exact hf_sm
  have hf_q7 : f44 q7 = eI g 12 (upd (upd (upd (upd (upd (upd (upd (fun _ => 0) 0 30) 1 30) 2 30) 3 30) 4 30) 5 30) 6 30) := by rw [ef44]; exact va_up_self _ _ _
  replace hFr : FrN L f f44 [sm] := by rw [ef44]; exact hFr.up (Or.inr hn_q7)
  refine lv_dup hx hb dX5_init_45 rfl ?_
  refine lv_bipush (v := 7) hx hb dX5_init_46 (by decide) ?_
  refine lv_bipush (v := 30) hx hb dX5_init_48 (by decide) ?_
  refine pn_iast (j := 7) hx hb hK hP hN hA hS hL_q7 hf_q7 rfl (by omega) (Nat.lt_of_lt_of_le (m := 100) (by omega) (by omega)) dX5_init_50 (fun H locs hP hS => ?_)
  obtain ⟨f50, ef50⟩ : ∃ z, z = va_up f44 q7 (eI g 12 (upd (upd (upd (upd (upd (upd (upd (upd (fun _ => 0) 0 30) 1 30) 2 30) 3 30) 4 30) 5 30) 6 30) 7 30)) := ⟨_, rfl⟩
  replace hP : PP g L7 f50 H := by rw [ef50]; exact hP
  have hf_sm : f50 sm = eO 6 [.int 0, .null, .null, .null, .null, .null] := by rw [ef50, va_up_ne _ _ n_sm_q7]; exact hf_sm
  have hf_q7 : f50 q7 = eI g 12 (upd (upd (upd (upd (upd (upd (upd (upd (fun _ => 0) 0 30) 1 30) 2 30) 3 30) 4 30) 5 30) 6 30) 7 30) := by rw [ef50]; exact va_up_self _ _ _
  replace hFr : FrN L f f50 [sm] := by rw [ef50]; exact hFr.up (Or.inr hn_q7)
  refine lv_dup hx hb dX5_init_51 rfl ?_
  refine lv_bipush (v := 8) hx hb dX5_init_52 (by decide) ?_
  refine lv_bipush (v := 30) hx hb dX5_init_54 (by decide) ?_
  refine pn_iast (j := 8) hx hb hK hP hN hA hS hL_q7 hf_q7 rfl (by omega) (Nat.lt_of_lt_of_le (m := 100) (by omega) (by omega)) dX5_init_56 (fun H locs hP hS => ?_)
  obtain ⟨f56, ef56⟩ : ∃ z, z = va_up f50 q7 (eI g 12 (upd (upd (upd (upd (upd (upd (upd (upd (upd (fun _ => 0) 0 30) 1 30) 2 30) 3 30) 4 30) 5 30) 6 30) 7 30) 8 30)) := ⟨_, rfl⟩
  replace hP : PP g L7 f56 H := by rw [ef56]; exact hP
  have hf_sm : f56 sm = eO 6 [.int 0, .null, .null, .null, .null, .null] := by rw [ef56, va_up_ne _ _ n_sm_q7]; exact hf_sm
  have hf_q7 : f56 q7 = eI g 12 (upd (upd (upd (upd (upd (upd (upd (upd (upd (fun _ => 0) 0 30) 1 30) 2 30) 3 30) 4 30) 5 30) 6 30) 7 30) 8 30) := by rw [ef56]; exact va_up_self _ _ _
  replace hFr : FrN L f f56 [sm] := by rw [ef56]; exact hFr.up (Or.inr hn_q7)
  refine lv_dup hx hb dX5_init_57 rfl ?_
  refine lv_bipush (v := 9) hx hb dX5_init_58 (by decide) ?_
  refine lv_bipush (v := 30) hx hb dX5_init_60 (by decide) ?_
  refine pn_iast (j := 9) hx hb hK hP hN hA hS hL_q7 hf_q7 rfl (by omega) (Nat.lt_of_lt_of_le (m := 100) (by omega) (by omega)) dX5_init_62 (fun H locs hP hS => ?_)
  obtain ⟨f62, ef62⟩ : ∃ z, z = va_up f56 q7 (eI g 12 (upd (upd (upd (upd (upd (upd (upd (upd (upd (upd (fun _ => 0) 0 30) 1 30) 2 30) 3 30) 4 30) 5 30) 6 30) 7 30) 8 30) 9 30)) := ⟨_, rfl⟩
  replace hP : PP g L7 f62 H := by rw [ef62]; exact hP
  have hf_sm : f62 sm = eO 6 [.int 0, .null, .null, .null, .null, .null] := by rw [ef62, va_up_ne _ _ n_sm_q7]; exact hf_sm
  have hf_q7 : f62 q7 = eI g 12 (upd (upd (upd (upd (upd (upd (upd (upd (upd (upd (fun _ => 0) 0 30) 1 30) 2 30) 3 30) 4 30) 5 30) 6 30) 7 30) 8 30) 9 30) := by rw [ef62]; exact va_up_self _ _ _
  replace hFr : FrN L f f62 [sm] := by rw [ef62]; exact hFr.up (Or.inr hn_q7)
  refine lv_dup hx hb dX5_init_63 rfl ?_
  refine lv_bipush (v := 10) hx hb dX5_init_64 (by decide) ?_
  refine lv_bipush (v := 30) hx hb dX5_init_66 (by decide) ?_
  refine pn_iast (j := 10) hx hb hK hP hN hA hS hL_q7 hf_q7 rfl (by omega) (Nat.lt_of_lt_of_le (m := 100) (by omega) (by omega)) dX5_init_68 (fun H locs hP hS => ?_)
  obtain ⟨f68, ef68⟩ : ∃ z, z = va_up f62 q7 (eI g 12 (upd (upd (upd (upd (upd (upd (upd (upd (upd (upd (upd (fun _ => 0) 0 30) 1 30) 2 30) 3 30) 4 30) 5 30) 6 30) 7 30) 8 30) 9 30) 10 30)) := ⟨_, rfl⟩
  replace hP : PP g L7 f68 H := by rw [ef68]; exact hP
  have hf_sm : f68 sm = eO 6 [.int 0, .null, .null, .null, .null, .null] := by rw [ef68, va_up_ne _ _ n_sm_q7]; exact hf_sm
  have hf_q7 : f68 q7 = eI g 12 (upd (upd (upd (upd (upd (upd (upd (upd (upd (upd (upd (fun _ => 0) 0 30) 1 30) 2 30) 3 30) 4 30) 5 30) 6 30) 7 30) 8 30) 9 30) 10 30) := by rw [ef68]; exact va_up_self _ _ _
  replace hFr : FrN L f f68 [sm] := by rw [ef68]; exact hFr.up (Or.inr hn_q7)
  refine lv_dup hx hb dX5_init_69 rfl ?_
  refine lv_bipush (v := 11) hx hb dX5_init_70 (by decide) ?_
  refine lv_bipush (v := 30) hx hb dX5_init_72 (by decide) ?_
  refine pn_iast (j := 11) hx hb hK hP hN hA hS hL_q7 hf_q7 rfl (by omega) (Nat.lt_of_lt_of_le (m := 100) (by omega) (by omega)) dX5_init_74 (fun H locs hP hS => ?_)
  obtain ⟨f74, ef74⟩ : ∃ z, z = va_up f68 q7 (eI g 12 (upd (upd (upd (upd (upd (upd (upd (upd (upd (upd (upd (upd (fun _ => 0) 0 30) 1 30) 2 30) 3 30) 4 30) 5 30) 6 30) 7 30) 8 30) 9 30) 10 30) 11 30)) := ⟨_, rfl⟩
  replace hP : PP g L7 f74 H := by rw [ef74]; exact hP
  have hf_sm : f74 sm = eO 6 [.int 0, .null, .null, .null, .null, .null] := by rw [ef74, va_up_ne _ _ n_sm_q7]; exact hf_sm
  have hf_q7 : f74 q7 = eI g 12 (upd (upd (upd (upd (upd (upd (upd (upd (upd (upd (upd (upd (fun _ => 0) 0 30) 1 30) 2 30) 3 30) 4 30) 5 30) 6 30) 7 30) 8 30) 9 30) 10 30) 11 30) := by rw [ef74]; exact va_up_self _ _ _
  replace hFr : FrN L f f74 [sm] := by rw [ef74]; exact hFr.up (Or.inr hn_q7)
  refine pg_put (ty := (.array .int)) (C := RX5) (T := TX5) (N := 6) hx hb hts hi_X5 tyX5 tyX5_ok nmX5 hown hK hP hN hA hS hL_sm hf_sm rfl 1 (by decide) (hts (.fieldLink RX5 7 "BarometerLeagueLaw$Sim" "glass" "[I") (by decide +kernel)) (fun _ h9 => h9) rfl (by decide +kernel) rfl rfl (Nat.le_of_ble_eq_true rfl) dX5_init_75 (fun H locs hP hS => ?_)
  obtain ⟨f75, ef75⟩ : ∃ z, z = va_up f74 sm (eO 6 [.int 0, .ref q7, .null, .null, .null, .null]) := ⟨_, rfl⟩
  replace hP : PP g L7 f75 H := by rw [ef75]; exact hP
  have hf_q7 : f75 q7 = eI g 12 (upd (upd (upd (upd (upd (upd (upd (upd (upd (upd (upd (upd (fun _ => 0) 0 30) 1 30) 2 30) 3 30) 4 30) 5 30) 6 30) 7 30) 8 30) 9 30) 10 30) 11 30) := by rw [ef75, va_up_ne _ _ n_sm_q7.symm]; exact hf_q7
  have hf_sm : f75 sm = eO 6 [.int 0, .ref q7, .null, .null, .null, .null] := by rw [ef75]; exact va_up_self _ _ _
  replace hFr : FrN L f f75 [sm] := by rw [ef75]; exact hFr.up (Or.inl (by simp))
  refine lv_aload_n hx hb dX5_init_78 rfl (lv_at hl 0 rfl) ?_
  refine lv_bipush (v := 12) hx hb dX5_init_79 (by decide) ?_
  refine pg_newaZ hx hb (hts (.arrayClass .boolean) (by decide +kernel)) hK hP hN hA hA2 hS (k := 12) rfl (by omega) (by show 1 + 1 ≤ 5; omega) (by show 60 * (1) + 12 ≤ 300; omega) dX5_init_81 (fun q81 H hn0_q81 hA_q81 hP hS => ?_)
  obtain ⟨L81, eL81⟩ : ∃ z, z = q81 :: L7 := ⟨_, rfl⟩
  obtain ⟨f81, ef81⟩ : ∃ z, z = va_up f75 q81 (eZ g 12 (fun _ => 0)) := ⟨_, rfl⟩
  rw [← eL81, ← ef81] at hP
  have hn_q81 : q81 ∉ L := fun h => hn0_q81 (hSub _ h)
  have n_sm_q81 : sm ≠ q81 := fun z => hn0_q81 (z ▸ hL_sm)
  have hf_sm : f81 sm = eO 6 [.int 0, .ref q7, .null, .null, .null, .null] := by rw [ef81, va_up_ne _ _ n_sm_q81]; exact hf_sm
  have hL_sm : sm ∈ L81 := by rw [eL81]; exact List.mem_cons_of_mem _ hL_sm
  have n_q7_q81 : q7 ≠ q81 := fun z => hn0_q81 (z ▸ hL_q7)
  have hf_q7 : f81 q7 = eI g 12 (upd (upd (upd (upd (upd (upd (upd (upd (upd (upd (upd (upd (fun _ => 0) 0 30) 1 30) 2 30) 3 30) 4 30) 5 30) 6 30) 7 30) 8 30) 9 30) 10 30) 11 30) := by rw [ef81, va_up_ne _ _ n_q7_q81]; exact hf_q7
  have hL_q7 : q7 ∈ L81 := by rw [eL81]; exact List.mem_cons_of_mem _ hL_q7
  have hf_q81 : f81 q81 = eZ g 12 (fun _ => 0) := by rw [ef81]; exact va_up_self _ _ _
  have hL_q81 : q81 ∈ L81 := by rw [eL81]; exact List.mem_cons_self
  have hN : L81.Nodup := by rw [eL81]; exact List.nodup_cons.mpr ⟨hn0_q81, hN⟩
  have hA : ∀ a ∈ L81, AA L s.heap.size a := by rw [eL81]; exact fa_c hA_q81 hA
  have hSub : ∀ a ∈ L, a ∈ L81 := by rw [eL81]; exact fun a h => List.mem_cons_of_mem _ (hSub a h)
  replace hFr : FrN L f f81 [sm] := by rw [ef81]; exact hFr.up (Or.inr hn_q81)
  refine W.widen (k := 2) (n := 60 * (2)) (by omega) (by omega) ?_
  refine pg_put (ty := (.array .boolean)) (C := RX5) (T := TX5) (N := 6) hx hb hts hi_X5 tyX5 tyX5_ok nmX5 hown hK hP hN hA hS hL_sm hf_sm rfl 2 (by decide) (hts (.fieldLink RX5 13 "BarometerLeagueLaw$Sim" "rain" "[Z") (by decide +kernel)) (fun _ h9 => h9) rfl (by decide +kernel) rfl rfl (Nat.le_of_ble_eq_true rfl) dX5_init_83 (fun H locs hP hS => ?_)
  obtain ⟨f83, ef83⟩ : ∃ z, z = va_up f81 sm (eO 6 [.int 0, .ref q7, .ref q81, .null, .null, .null]) := ⟨_, rfl⟩
  replace hP : PP g L81 f83 H := by rw [ef83]; exact hP
  have hf_q7 : f83 q7 = eI g 12 (upd (upd (upd (upd (upd (upd (upd (upd (upd (upd (upd (upd (fun _ => 0) 0 30) 1 30) 2 30) 3 30) 4 30) 5 30) 6 30) 7 30) 8 30) 9 30) 10 30) 11 30) := by rw [ef83, va_up_ne _ _ n_sm_q7.symm]; exact hf_q7
  have hf_q81 : f83 q81 = eZ g 12 (fun _ => 0) := by rw [ef83, va_up_ne _ _ n_sm_q81.symm]; exact hf_q81
  have hf_sm : f83 sm = eO 6 [.int 0, .ref q7, .ref q81, .null, .null, .null] := by rw [ef83]; exact va_up_self _ _ _
  replace hFr : FrN L f f83 [sm] := by rw [ef83]; exact hFr.up (Or.inl (by simp))
  refine lv_aload_n hx hb dX5_init_86 rfl (lv_at hl 0 rfl) ?_
  refine lv_iconst (v := 0) hx hb dX5_init_87 (by decide) ?_
  refine pg_newR hx hb hown (hts (.classLink RX5 17 "[I") (by decide +kernel)) hK hP hN hA hA2 hS (k := 0) rfl (by omega) (by show 2 + 1 ≤ 5; omega) (by show 60 * (2) + 0 ≤ 300; omega) dX5_init_88 (fun q88 H hn0_q88 hA_q88 hP hS => ?_)
  obtain ⟨L88, eL88⟩ : ∃ z, z = q88 :: L81 := ⟨_, rfl⟩
  obtain ⟨f88, ef88⟩ : ∃ z, z = va_up f83 q88 (eR g 0 (fun _ => none)) := ⟨_, rfl⟩
  rw [← eL88, ← ef88] at hP
  have hn_q88 : q88 ∉ L := fun h => hn0_q88 (hSub _ h)
  have n_sm_q88 : sm ≠ q88 := fun z => hn0_q88 (z ▸ hL_sm)
  have hf_sm : f88 sm = eO 6 [.int 0, .ref q7, .ref q81, .null, .null, .null] := by rw [ef88, va_up_ne _ _ n_sm_q88]; exact hf_sm
  have hL_sm : sm ∈ L88 := by rw [eL88]; exact List.mem_cons_of_mem _ hL_sm
  have n_q7_q88 : q7 ≠ q88 := fun z => hn0_q88 (z ▸ hL_q7)
  have hf_q7 : f88 q7 = eI g 12 (upd (upd (upd (upd (upd (upd (upd (upd (upd (upd (upd (upd (fun _ => 0) 0 30) 1 30) 2 30) 3 30) 4 30) 5 30) 6 30) 7 30) 8 30) 9 30) 10 30) 11 30) := by rw [ef88, va_up_ne _ _ n_q7_q88]; exact hf_q7
  have hL_q7 : q7 ∈ L88 := by rw [eL88]; exact List.mem_cons_of_mem _ hL_q7
  have n_q81_q88 : q81 ≠ q88 := fun z => hn0_q88 (z ▸ hL_q81)
  have hf_q81 : f88 q81 = eZ g 12 (fun _ => 0) := by rw [ef88, va_up_ne _ _ n_q81_q88]; exact hf_q81
  have hL_q81 : q81 ∈ L88 := by rw [eL88]; exact List.mem_cons_of_mem _ hL_q81
  have hf_q88 : f88 q88 = eR g 0 (fun _ => none) := by rw [ef88]; exact va_up_self _ _ _
  have hL_q88 : q88 ∈ L88 := by rw [eL88]; exact List.mem_cons_self
  have hN : L88.Nodup := by rw [eL88]; exact List.nodup_cons.mpr ⟨hn0_q88, hN⟩
  have hA : ∀ a ∈ L88, AA L s.heap.size a := by rw [eL88]; exact fa_c hA_q88 hA
  have hSub : ∀ a ∈ L, a ∈ L88 := by rw [eL88]; exact fun a h => List.mem_cons_of_mem _ (hSub a h)
  replace hFr : FrN L f f88 [sm] := by rw [ef88]; exact hFr.up (Or.inr hn_q88)
  refine W.widen (k := 3) (n := 60 * (3)) (by omega) (by omega) ?_
  refine pg_put (ty := (.array (.array .int))) (C := RX5) (T := TX5) (N := 6) hx hb hts hi_X5 tyX5 tyX5_ok nmX5 hown hK hP hN hA hS hL_sm hf_sm rfl 3 (by decide) (hts (.fieldLink RX5 18 "BarometerLeagueLaw$Sim" "signs" "[[I") (by decide +kernel)) (fun _ h9 => h9) rfl (by decide +kernel) rfl rfl (Nat.le_of_ble_eq_true rfl) dX5_init_91 (fun H locs hP hS => ?_)
  obtain ⟨f91, ef91⟩ : ∃ z, z = va_up f88 sm (eO 6 [.int 0, .ref q7, .ref q81, .ref q88, .null, .null]) := ⟨_, rfl⟩
  replace hP : PP g L88 f91 H := by rw [ef91]; exact hP
  have hf_q7 : f91 q7 = eI g 12 (upd (upd (upd (upd (upd (upd (upd (upd (upd (upd (upd (upd (fun _ => 0) 0 30) 1 30) 2 30) 3 30) 4 30) 5 30) 6 30) 7 30) 8 30) 9 30) 10 30) 11 30) := by rw [ef91, va_up_ne _ _ n_sm_q7.symm]; exact hf_q7
  have hf_q81 : f91 q81 = eZ g 12 (fun _ => 0) := by rw [ef91, va_up_ne _ _ n_sm_q81.symm]; exact hf_q81
  have hf_q88 : f91 q88 = eR g 0 (fun _ => none) := by rw [ef91, va_up_ne _ _ n_sm_q88.symm]; exact hf_q88
  have hf_sm : f91 sm = eO 6 [.int 0, .ref q7, .ref q81, .ref q88, .null, .null] := by rw [ef91]; exact va_up_self _ _ _
  replace hFr : FrN L f f91 [sm] := by rw [ef91]; exact hFr.up (Or.inl (by simp))
  refine lv_aload_n hx hb dX5_init_94 rfl (lv_at hl 0 rfl) ?_
  refine lv_iconst (v := 0) hx hb dX5_init_95 (by decide) ?_
  refine pg_newR hx hb hown (hts (.classLink RX5 17 "[I") (by decide +kernel)) hK hP hN hA hA2 hS (k := 0) rfl (by omega) (by show 3 + 1 ≤ 5; omega) (by show 60 * (3) + 0 ≤ 300; omega) dX5_init_96 (fun q96 H hn0_q96 hA_q96 hP hS => ?_)
  obtain ⟨L96, eL96⟩ : ∃ z, z = q96 :: L88 := ⟨_, rfl⟩
  obtain ⟨f96, ef96⟩ : ∃ z, z = va_up f91 q96 (eR g 0 (fun _ => none)) := ⟨_, rfl⟩
  rw [← eL96, ← ef96] at hP
  have hn_q96 : q96 ∉ L := fun h => hn0_q96 (hSub _ h)
  have n_sm_q96 : sm ≠ q96 := fun z => hn0_q96 (z ▸ hL_sm)
  have hf_sm : f96 sm = eO 6 [.int 0, .ref q7, .ref q81, .ref q88, .null, .null] := by rw [ef96, va_up_ne _ _ n_sm_q96]; exact hf_sm
  have hL_sm : sm ∈ L96 := by rw [eL96]; exact List.mem_cons_of_mem _ hL_sm
  have n_q7_q96 : q7 ≠ q96 := fun z => hn0_q96 (z ▸ hL_q7)
  have hf_q7 : f96 q7 = eI g 12 (upd (upd (upd (upd (upd (upd (upd (upd (upd (upd (upd (upd (fun _ => 0) 0 30) 1 30) 2 30) 3 30) 4 30) 5 30) 6 30) 7 30) 8 30) 9 30) 10 30) 11 30) := by rw [ef96, va_up_ne _ _ n_q7_q96]; exact hf_q7
  have hL_q7 : q7 ∈ L96 := by rw [eL96]; exact List.mem_cons_of_mem _ hL_q7
  have n_q81_q96 : q81 ≠ q96 := fun z => hn0_q96 (z ▸ hL_q81)
  have hf_q81 : f96 q81 = eZ g 12 (fun _ => 0) := by rw [ef96, va_up_ne _ _ n_q81_q96]; exact hf_q81
  have hL_q81 : q81 ∈ L96 := by rw [eL96]; exact List.mem_cons_of_mem _ hL_q81
  have n_q88_q96 : q88 ≠ q96 := fun z => hn0_q96 (z ▸ hL_q88)
  have hf_q88 : f96 q88 = eR g 0 (fun _ => none) := by rw [ef96, va_up_ne _ _ n_q88_q96]; exact hf_q88
  have hL_q88 : q88 ∈ L96 := by rw [eL96]; exact List.mem_cons_of_mem _ hL_q88
  have hf_q96 : f96 q96 = eR g 0 (fun _ => none) := by rw [ef96]; exact va_up_self _ _ _
  have hL_q96 : q96 ∈ L96 := by rw [eL96]; exact List.mem_cons_self
  have hN : L96.Nodup := by rw [eL96]; exact List.nodup_cons.mpr ⟨hn0_q96, hN⟩
  have hA : ∀ a ∈ L96, AA L s.heap.size a := by rw [eL96]; exact fa_c hA_q96 hA
  have hSub : ∀ a ∈ L, a ∈ L96 := by rw [eL96]; exact fun a h => List.mem_cons_of_mem _ (hSub a h)
  replace hFr : FrN L f f96 [sm] := by rw [ef96]; exact hFr.up (Or.inr hn_q96)
  refine W.widen (k := 4) (n := 60 * (4)) (by omega) (by omega) ?_
  refine pg_put (ty := (.array (.array .int))) (C := RX5) (T := TX5) (N := 6) hx hb hts hi_X5 tyX5 tyX5_ok nmX5 hown hK hP hN hA hS hL_sm hf_sm rfl 4 (by decide) (hts (.fieldLink RX5 22 "BarometerLeagueLaw$Sim" "villages" "[[I") (by decide +kernel)) (fun _ h9 => h9) rfl (by decide +kernel) rfl rfl (Nat.le_of_ble_eq_true rfl) dX5_init_99 (fun H locs hP hS => ?_)
  obtain ⟨f99, ef99⟩ : ∃ z, z = va_up f96 sm (eO 6 [.int 0, .ref q7, .ref q81, .ref q88, .ref q96, .null]) := ⟨_, rfl⟩
  replace hP : PP g L96 f99 H := by rw [ef99]; exact hP
  have hf_q7 : f99 q7 = eI g 12 (upd (upd (upd (upd (upd (upd (upd (upd (upd (upd (upd (upd (fun _ => 0) 0 30) 1 30) 2 30) 3 30) 4 30) 5 30) 6 30) 7 30) 8 30) 9 30) 10 30) 11 30) := by rw [ef99, va_up_ne _ _ n_sm_q7.symm]; exact hf_q7
  have hf_q81 : f99 q81 = eZ g 12 (fun _ => 0) := by rw [ef99, va_up_ne _ _ n_sm_q81.symm]; exact hf_q81
  have hf_q88 : f99 q88 = eR g 0 (fun _ => none) := by rw [ef99, va_up_ne _ _ n_sm_q88.symm]; exact hf_q88
  have hf_q96 : f99 q96 = eR g 0 (fun _ => none) := by rw [ef99, va_up_ne _ _ n_sm_q96.symm]; exact hf_q96
  have hf_sm : f99 sm = eO 6 [.int 0, .ref q7, .ref q81, .ref q88, .ref q96, .null] := by rw [ef99]; exact va_up_self _ _ _
  replace hFr : FrN L f f99 [sm] := by rw [ef99]; exact hFr.up (Or.inl (by simp))
  refine lv_aload_n hx hb dX5_init_102 rfl (lv_at hl 0 rfl) ?_
  refine lv_iconst (v := 0) hx hb dX5_init_103 (by decide) ?_
  refine pg_newR hx hb hown (hts (.classLink RX5 17 "[I") (by decide +kernel)) hK hP hN hA hA2 hS (k := 0) rfl (by omega) (by show 4 + 1 ≤ 5; omega) (by show 60 * (4) + 0 ≤ 300; omega) dX5_init_104 (fun q104 H hn0_q104 hA_q104 hP hS => ?_)
  obtain ⟨L104, eL104⟩ : ∃ z, z = q104 :: L96 := ⟨_, rfl⟩
  obtain ⟨f104, ef104⟩ : ∃ z, z = va_up f99 q104 (eR g 0 (fun _ => none)) := ⟨_, rfl⟩
  rw [← eL104, ← ef104] at hP
  have hn_q104 : q104 ∉ L := fun h => hn0_q104 (hSub _ h)
  have n_sm_q104 : sm ≠ q104 := fun z => hn0_q104 (z ▸ hL_sm)
  have hf_sm : f104 sm = eO 6 [.int 0, .ref q7, .ref q81, .ref q88, .ref q96, .null] := by rw [ef104, va_up_ne _ _ n_sm_q104]; exact hf_sm
  have hL_sm : sm ∈ L104 := by rw [eL104]; exact List.mem_cons_of_mem _ hL_sm
  have n_q7_q104 : q7 ≠ q104 := fun z => hn0_q104 (z ▸ hL_q7)
  have hf_q7 : f104 q7 = eI g 12 (upd (upd (upd (upd (upd (upd (upd (upd (upd (upd (upd (upd (fun _ => 0) 0 30) 1 30) 2 30) 3 30) 4 30) 5 30) 6 30) 7 30) 8 30) 9 30) 10 30) 11 30) := by rw [ef104, va_up_ne _ _ n_q7_q104]; exact hf_q7
  have hL_q7 : q7 ∈ L104 := by rw [eL104]; exact List.mem_cons_of_mem _ hL_q7
  have n_q81_q104 : q81 ≠ q104 := fun z => hn0_q104 (z ▸ hL_q81)
  have hf_q81 : f104 q81 = eZ g 12 (fun _ => 0) := by rw [ef104, va_up_ne _ _ n_q81_q104]; exact hf_q81
  have hL_q81 : q81 ∈ L104 := by rw [eL104]; exact List.mem_cons_of_mem _ hL_q81
  have n_q88_q104 : q88 ≠ q104 := fun z => hn0_q104 (z ▸ hL_q88)
  have hf_q88 : f104 q88 = eR g 0 (fun _ => none) := by rw [ef104, va_up_ne _ _ n_q88_q104]; exact hf_q88
  have hL_q88 : q88 ∈ L104 := by rw [eL104]; exact List.mem_cons_of_mem _ hL_q88
  have n_q96_q104 : q96 ≠ q104 := fun z => hn0_q104 (z ▸ hL_q96)
  have hf_q96 : f104 q96 = eR g 0 (fun _ => none) := by rw [ef104, va_up_ne _ _ n_q96_q104]; exact hf_q96
  have hL_q96 : q96 ∈ L104 := by rw [eL104]; exact List.mem_cons_of_mem _ hL_q96
  have hf_q104 : f104 q104 = eR g 0 (fun _ => none) := by rw [ef104]; exact va_up_self _ _ _
  have hL_q104 : q104 ∈ L104 := by rw [eL104]; exact List.mem_cons_self
  have hN : L104.Nodup := by rw [eL104]; exact List.nodup_cons.mpr ⟨hn0_q104, hN⟩
  have hA : ∀ a ∈ L104, AA L s.heap.size a := by rw [eL104]; exact fa_c hA_q104 hA
  have hSub : ∀ a ∈ L, a ∈ L104 := by rw [eL104]; exact fun a h => List.mem_cons_of_mem _ (hSub a h)
  replace hFr : FrN L f f104 [sm] := by rw [ef104]; exact hFr.up (Or.inr hn_q104)
  refine W.widen (k := 5) (n := 60 * (5)) (by omega) (by omega) ?_
  refine pg_put (ty := (.array (.array .int))) (C := RX5) (T := TX5) (N := 6) hx hb hts hi_X5 tyX5 tyX5_ok nmX5 hown hK hP hN hA hS hL_sm hf_sm rfl 5 (by decide) (hts (.fieldLink RX5 25 "BarometerLeagueLaw$Sim" "weights" "[[I") (by decide +kernel)) (fun _ h9 => h9) rfl (by decide +kernel) rfl rfl (Nat.le_of_ble_eq_true rfl) dX5_init_107 (fun H locs hP hS => ?_)
  obtain ⟨f107, ef107⟩ : ∃ z, z = va_up f104 sm (eO 6 [.int 0, .ref q7, .ref q81, .ref q88, .ref q96, .ref q104]) := ⟨_, rfl⟩
  replace hP : PP g L104 f107 H := by rw [ef107]; exact hP
  have hf_q7 : f107 q7 = eI g 12 (upd (upd (upd (upd (upd (upd (upd (upd (upd (upd (upd (upd (fun _ => 0) 0 30) 1 30) 2 30) 3 30) 4 30) 5 30) 6 30) 7 30) 8 30) 9 30) 10 30) 11 30) := by rw [ef107, va_up_ne _ _ n_sm_q7.symm]; exact hf_q7
  have hf_q81 : f107 q81 = eZ g 12 (fun _ => 0) := by rw [ef107, va_up_ne _ _ n_sm_q81.symm]; exact hf_q81
  have hf_q88 : f107 q88 = eR g 0 (fun _ => none) := by rw [ef107, va_up_ne _ _ n_sm_q88.symm]; exact hf_q88
  have hf_q96 : f107 q96 = eR g 0 (fun _ => none) := by rw [ef107, va_up_ne _ _ n_sm_q96.symm]; exact hf_q96
  have hf_q104 : f107 q104 = eR g 0 (fun _ => none) := by rw [ef107, va_up_ne _ _ n_sm_q104.symm]; exact hf_q104
  have hf_sm : f107 sm = eO 6 [.int 0, .ref q7, .ref q81, .ref q88, .ref q96, .ref q104] := by rw [ef107]; exact va_up_self _ _ _
  replace hFr : FrN L f f107 [sm] := by rw [ef107]; exact hFr.up (Or.inl (by simp))
  exact hend L104 f107 _ _ _ _ _ _ ⟨hN, hSub, hA⟩ (⟨q7, q81, q88, q96, q104, n_q7_q81, hL_q7, hL_q81, hL_q88, hL_q96, hL_q104, hL_sm, hf_sm, ⟨_, hf_q7, fun i hi => by rcases (show i = 0 ∨ i = 1 ∨ i = 2 ∨ i = 3 ∨ i = 4 ∨ i = 5 ∨ i = 6 ∨ i = 7 ∨ i = 8 ∨ i = 9 ∨ i = 10 ∨ i = 11 by omega) with rfl | rfl | rfl | rfl | rfl | rfl | rfl | rfl | rfl | rfl | rfl | rfl <;> rfl⟩, hf_q81, hf_q88, hf_q96, hf_q104⟩) hP hS (Nat.le_of_ble_eq_true rfl) (Nat.le_of_ble_eq_true rfl) dX5_init_110

set_option maxHeartbeats 4000000 in
set_option maxRecDepth 100000 in
theorem m_X5_more (l : Launch) (g : GG) (L : List Nat) (f : Nat → va_E) (sz : Nat) (hN : L.Nodup) (t : Nat) (rs rw n k mm : Nat) (fa : Nat → Nat) (w : Nat → Int32) (h : Nat → Nat → Int32) (hL_rs : rs ∈ L) (hf_rs : f rs = eR g n (vilR fa n)) (hL_rw : rw ∈ L) (hf_rw : f rw = eI g k w) (hn : n ≤ 8) (hR : RowsB g L f mm n fa h) : AR l g yX5_more wsX5_more 0 0 1 60 t L f sz [.ref rs, .ref rw] (fun x L2 f2 => x ∉ L ∧ x ∈ L2 ∧ f2 x = eR g (n + 1) (vilR (pushN fa n rw) (n + 1)) ∧ FrN L f f2 []) := by
  refine AR.start (cc := cX5_more) (maxL := 4) (ret := (.array (.array .int))) (by decide +kernel) rfl (by simp [lg_sl, Value.category]) (Or.inr ⟨_, rfl⟩) ?_
  intro p e s m args below meth c Q ls hx hb hml hts hown hnm hS hP hK hDS hl hend
  have hA : ∀ a ∈ L, AA L s.heap.size a := fun _ h => Or.inl h
  have hA2 : ∀ q, s.heap.size ≤ q → AA L s.heap.size q := fun _ h => Or.inr h
  have hSub : ∀ a ∈ L, a ∈ L := fun _ h => h
  have hl : lv_has ls 4 [(0, .ref rs), (1, .ref rw)] := hl
  have hFr : FrN L f f [] := FrN.rf
  have n_rs_rw : rs ≠ rw := ne_e hf_rs hf_rw (by simp)
  have h0f_rs := hf_rs
  have h0f_rw := hf_rw
  refine lv_aload_n hx hb dX5_more_0 rfl (lv_at hl 0 rfl) ?_
  refine pg_alen hx hb hK hP hL_rs hf_rs 4 rfl (v := nI n) rfl dX5_more_1 ?_
  refine lv_iconst (v := 1) hx hb dX5_more_2 (by decide) ?_
  refine lv_iadd hx hb dX5_more_3 ?_
  refine lv_topi (fun v3 ev3 => ?_)
  have ev3 : v3 = nI (n + 1) := (ev3.trans (nat_add rfl rfl))
  subst ev3
  refine pg_newR hx hb hown (hts (.classLink RX5 17 "[I") (by decide +kernel)) hK hP hN hA hA2 hS (k := n + 1) rfl (by omega) (by show 0 + 1 ≤ 1; omega) (by show 60 * (0) + n + 1 ≤ 60; omega) dX5_more_4 (fun q4 H hn0_q4 hA_q4 hP hS => ?_)
  obtain ⟨L4, eL4⟩ : ∃ z, z = q4 :: L := ⟨_, rfl⟩
  obtain ⟨f4, ef4⟩ : ∃ z, z = va_up f q4 (eR g (n + 1) (fun _ => none)) := ⟨_, rfl⟩
  rw [← eL4, ← ef4] at hP
  have hn_q4 : q4 ∉ L := fun h => hn0_q4 (hSub _ h)
  have n_rs_q4 : rs ≠ q4 := fun z => hn0_q4 (z ▸ hL_rs)
  have hf_rs : f4 rs = eR g n (vilR fa n) := by rw [ef4, va_up_ne _ _ n_rs_q4]; exact hf_rs
  have hL_rs : rs ∈ L4 := by rw [eL4]; exact List.mem_cons_of_mem _ hL_rs
  have n_rw_q4 : rw ≠ q4 := fun z => hn0_q4 (z ▸ hL_rw)
  have hf_rw : f4 rw = eI g k w := by rw [ef4, va_up_ne _ _ n_rw_q4]; exact hf_rw
  have hL_rw : rw ∈ L4 := by rw [eL4]; exact List.mem_cons_of_mem _ hL_rw
  have hf_q4 : f4 q4 = eR g (n + 1) (fun _ => none) := by rw [ef4]; exact va_up_self _ _ _
  have hL_q4 : q4 ∈ L4 := by rw [eL4]; exact List.mem_cons_self
  have hN : L4.Nodup := by rw [eL4]; exact List.nodup_cons.mpr ⟨hn0_q4, hN⟩
  have hA : ∀ a ∈ L4, AA L s.heap.size a := by rw [eL4]; exact fa_c hA_q4 hA
  have hSub : ∀ a ∈ L, a ∈ L4 := by rw [eL4]; exact fun a h => List.mem_cons_of_mem _ (hSub a h)
  replace hFr : FrN L f f4 [] := by rw [ef4]; exact hFr.up (Or.inr hn_q4)
  refine W.widen (k := 1) (n := 60 * (1)) (by omega) (by omega) ?_
  refine lv_astore_n (lv' := [(2, .ref q4), (0, .ref rs), (1, .ref rw)]) hx hb dX5_more_7 rfl hl (by decide) rfl (fun ls hl => ?_)
  refine lv_iconst (v := 0) hx hb dX5_more_8 (by decide) ?_
  refine lv_istore_n (lv' := [(3, .int 0), (2, .ref q4), (0, .ref rs), (1, .ref rw)]) hx hb dX5_more_9 rfl hl (by decide) rfl (fun ls hl => ?_)
  have hf_q4 : f4 q4 = eR g (n + 1) (vilR fa 0) := by rw [hf_q4, vilR_0]
  have K10 : ∀ (n10 : Nat) (i : Nat) (f10 : Nat → va_E) (H : Heap) (locs : List Loc), n - i < n10 → i ≤ n → f10 rs = eR g n (vilR fa n) → f10 rw = eI g k w → f10 q4 = eR g (n + 1) (vilR fa i) → FrN L f f10 [] → PP g L4 f10 H → va_S (AA L s.heap.size) s.heap H locs → ∀ (ls : Array Slot), lv_has ls 4 [(3, .int (nI i)), (2, .ref q4), (1, .ref rw), (0, .ref rs)] → W p l e ({ frames := 0, cells := 1, slots := 60, locals := 0 } : Room) s m args below meth c H locs (1) (60 * (1)) Q (F0 m 10 ls []) := by
    intro n10
    induction n10 with
    | zero => intros; omega
    | succ n10 ih10 =>
      intro i f10 H locs hm10 hi hq10_0 hq10_1 hq10_2 hFr hP hS ls hl
      have hf_rs : f10 rs = eR g n (vilR fa n) := hq10_0
      have hf_rw : f10 rw = eI g k w := hq10_1
      have hf_q4 : f10 q4 = eR g (n + 1) (vilR fa i) := hq10_2
      have hRc := hR.grow hSub (fun x hx => hFr x hx List.not_mem_nil)
      refine lv_iload_n hx hb dX5_more_10 rfl (lv_at hl 0 rfl) ?_
      refine lv_aload_n hx hb dX5_more_11 rfl (lv_at hl 3 rfl) ?_
      refine pg_alen hx hb hK hP hL_rs hf_rs 4 rfl (v := nI n) rfl dX5_more_12 ?_
      refine lv_icmp_ge (tgt := 28) hx hb dX5_more_13 (by decide) (fun c13 => ?_) (fun c13 => ?_)
      · skip
        have c13 : n ≤ i := (nI_leI (a := n) (b := i) (by omega) (by omega)).mp (show nI n ≤ nI i from c13)
        refine lv_aload_n hx hb dX5_more_28 rfl (lv_at hl 1 rfl) ?_
        refine lv_aload_n hx hb dX5_more_29 rfl (lv_at hl 3 rfl) ?_
        refine pg_alen hx hb hK hP hL_rs hf_rs 4 rfl (v := nI n) rfl dX5_more_30 ?_
        refine lv_aload_n hx hb dX5_more_31 rfl (lv_at hl 2 rfl) ?_
        refine pn_rast (j := n) hx hb hK hP hN hA hS hL_q4 hf_q4 hL_rw hf_rw rfl (by omega) (Nat.lt_of_lt_of_le (m := 100) (by omega) (by omega)) dX5_more_32 (fun H locs hP hS => ?_)
        obtain ⟨f32, ef32⟩ : ∃ z, z = va_up f10 q4 (eR g (n + 1) (va_up (vilR fa i) n (some rw))) := ⟨_, rfl⟩
        replace hP : PP g L4 f32 H := by rw [ef32]; exact hP
        have hf_rs : f32 rs = eR g n (vilR fa n) := by rw [ef32, va_up_ne _ _ n_rs_q4]; exact hf_rs
        have hf_rw : f32 rw = eI g k w := by rw [ef32, va_up_ne _ _ n_rw_q4]; exact hf_rw
        have hf_q4 : f32 q4 = eR g (n + 1) (va_up (vilR fa i) n (some rw)) := by rw [ef32]; exact va_up_self _ _ _
        replace hFr : FrN L f f32 [] := by rw [ef32]; exact hFr.up (Or.inr hn_q4)
        refine lv_aload_n hx hb dX5_more_33 rfl (lv_at hl 1 rfl) ?_
        exact hend (q4) L4 f32 _ _ _ _ _ _ ⟨hN, hSub, hA⟩ (⟨hn_q4, hL_q4, by rw [hf_q4, show i = n from (by omega), vilR_s], hFr⟩) hP hS (by show 1 ≤ 1; omega) (by show 60 * (1) ≤ 60; omega) dX5_more_34
      · skip
        have c13 : ¬ n ≤ i := fun h => c13 ((nI_leI (a := n) (b := i) (by omega) (by omega)).mpr h)
        refine lv_aload_n hx hb dX5_more_16 rfl (lv_at hl 1 rfl) ?_
        refine lv_iload_n hx hb dX5_more_17 rfl (lv_at hl 0 rfl) ?_
        refine lv_aload_n hx hb dX5_more_18 rfl (lv_at hl 3 rfl) ?_
        refine lv_iload_n hx hb dX5_more_19 rfl (lv_at hl 0 rfl) ?_
        refine pn_rald (j := i) hx hb hK hP hL_rs hf_rs rfl (by omega) (Nat.lt_of_lt_of_le (m := 100) (by omega) (by omega)) (vilR_at (by omega)) dX5_more_20 ?_
        obtain ⟨hL_fa_i, z20, hf_fa_i, -⟩ := hRc i (by omega)
        refine pn_rast (j := i) hx hb hK hP hN hA hS hL_q4 hf_q4 hL_fa_i hf_fa_i rfl (by omega) (Nat.lt_of_lt_of_le (m := 100) (by omega) (by omega)) dX5_more_21 (fun H locs hP hS => ?_)
        obtain ⟨f21, ef21⟩ : ∃ z, z = va_up f10 q4 (eR g (n + 1) (va_up (vilR fa i) i (some (fa i)))) := ⟨_, rfl⟩
        replace hP : PP g L4 f21 H := by rw [ef21]; exact hP
        have hf_rs : f21 rs = eR g n (vilR fa n) := by rw [ef21, va_up_ne _ _ n_rs_q4]; exact hf_rs
        have hf_rw : f21 rw = eI g k w := by rw [ef21, va_up_ne _ _ n_rw_q4]; exact hf_rw
        have hf_q4 : f21 q4 = eR g (n + 1) (va_up (vilR fa i) i (some (fa i))) := by rw [ef21]; exact va_up_self _ _ _
        replace hFr : FrN L f f21 [] := by rw [ef21]; exact hFr.up (Or.inr hn_q4)
        refine lv_iinc (v := nI (i + 1)) (lv' := [(3, .int (nI (i + 1))), (2, .ref q4), (1, .ref rw), (0, .ref rs)]) hx hb dX5_more_22 hl (k := 0) rfl (nI_1 _) (by decide) rfl (fun ls hl => ?_)
        refine lv_goto (tgt := 10) hx hb dX5_more_25 (by decide) ?_
        rw [vilR_f] at hf_q4
        refine W.widen (k := 1) (n := 60 * (1)) (by omega) (by omega) ?_
        exact ih10 (i + 1) f21 H locs (by omega) (by omega) hf_rs hf_rw hf_q4 hFr hP hS ls (lv_sub hl [0, 1, 2, 3] rfl)
  refine W.widen (k := 1) (n := 60 * (1)) (by omega) (by omega) ?_
  exact K10 _ 0 f4 _ _ (Nat.lt_succ_self _) (Nat.zero_le _) hf_rs hf_rw hf_q4 hFr hP hS ls (lv_sub hl [0, 1, 3, 2] rfl)

set_option maxHeartbeats 4000000 in
set_option maxRecDepth 100000 in
theorem m_X5_counts (l : Launch) (g : GG) (L : List Nat) (f : Nat → va_E) (sz : Nat) (hN : L.Nodup) (t : Nat) (sm sg sr ss sv sw d0 n nv : Nat) (fs fv fw : Nat → Nat) (gl rn kd nu : Nat → Int32) (vs : Nat → VV) (hL_sm : sm ∈ L) (hf_sm : f sm = eO 6 [.int (nI d0), .ref sg, .ref sr, .ref ss, .ref sv, .ref sw]) (hL_sg : sg ∈ L) (hf_sg : f sg = eI g 12 gl) (hL_sr : sr ∈ L) (hf_sr : f sr = eZ g 12 rn) (hL_ss : ss ∈ L) (hf_ss : f ss = eR g n (vilR fs n)) (hL_sv : sv ∈ L) (hf_sv : f sv = eR g nv (vilR fv nv)) (hL_sw : sw ∈ L) (hf_sw : f sw = eR g nv (vilR fw nv)) (hn : n ≤ 8) (hnv : nv ≤ 6) (hrn : ∀ k, k < 12 → ∃ b, rn k = b2i b) (hnu : ∀ j, j < n → ∃ m : Nat, m ≤ 60 ∧ nu j = nI m) (hgl : ∀ k, k < 12 → ∃ m : Nat, m ≤ 60 ∧ gl k = nI m) (hSR : RowsB g L f 2 n fs (fun j => pr2 (kd j) (nu j))) (hVR : RowsB g L f 3 nv fv (fun v => vr3 (vs v))) (hWR : RowsB g L f 8 nv fw (fun v => (vs v).2.2.2.2)) (hd : d0 < 2 ^ 30) : AR l g yX5_counts wsX5_counts 2 49 1 60 t L f sz [.ref sm] (fun x L2 f2 => x ∉ L ∧ x ∈ L2 ∧ f2 x = eI g 7 (cntA (nI d0) (nI n) (nI nv) (sumN (fun v => (vs v).2.1) nv) (sumN (fun v => (vs v).2.2.1) nv) (sumN (fun v => b2i (decide (0 < leadN (fun j => truth (sayB (kd j) (nu j) gl rn d0)) (vs v).2.2.2.2 n))) nv) (sumN rn 12)) ∧ FrN L f f2 []) := by
  refine AR.start (cc := cX5_counts) (maxL := 6) (ret := (.array .int)) (by decide +kernel) rfl (by simp [lg_sl, Value.category]) (Or.inr ⟨_, rfl⟩) ?_
  intro p e s m args below meth c Q ls hx hb hml hts hown hnm hS hP hK hDS hl hend
  have hA : ∀ a ∈ L, AA L s.heap.size a := fun _ h => Or.inl h
  have hA2 : ∀ q, s.heap.size ≤ q → AA L s.heap.size q := fun _ h => Or.inr h
  have hSub : ∀ a ∈ L, a ∈ L := fun _ h => h
  have hl : lv_has ls 6 [(0, .ref sm)] := hl
  have hi_X5 : ∀ w ∈ u_ws RX5 TX5 6, w ∈ wsX5_counts := by decide +kernel
  have hFr : FrN L f f [] := FrN.rf
  have n_sm_sg : sm ≠ sg := ne_e hf_sm hf_sg (by simp)
  have n_sm_sr : sm ≠ sr := ne_e hf_sm hf_sr (by simp)
  have n_sm_ss : sm ≠ ss := ne_e hf_sm hf_ss (by simp)
  have n_sm_sv : sm ≠ sv := ne_e hf_sm hf_sv (by simp)
  have n_sm_sw : sm ≠ sw := ne_e hf_sm hf_sw (by simp)
  have n_sg_ss : sg ≠ ss := ne_e hf_sg hf_ss (by simp)
  have n_sg_sv : sg ≠ sv := ne_e hf_sg hf_sv (by simp)
  have n_sg_sw : sg ≠ sw := ne_e hf_sg hf_sw (by simp)
  have n_sr_ss : sr ≠ ss := ne_e hf_sr hf_ss (by simp)
  have n_sr_sv : sr ≠ sv := ne_e hf_sr hf_sv (by simp)
  have n_sr_sw : sr ≠ sw := ne_e hf_sr hf_sw (by simp)
  have h0f_sm := hf_sm
  have h0f_sg := hf_sg
  have h0f_sr := hf_sr
  have h0f_ss := hf_ss
  have h0f_sv := hf_sv
  have h0f_sw := hf_sw
  refine lv_bipush (v := 7) hx hb dX5_counts_0 (by decide) ?_
  refine pg_newaI hx hb (hts (.arrayClass .int) (by decide +kernel)) hK hP hN hA hA2 hS (k := 7) rfl (by omega) (by show 0 + 1 ≤ 1; omega) (by show 60 * (0) + 7 ≤ 60; omega) dX5_counts_2 (fun q2 H hn0_q2 hA_q2 hP hS => ?_)
  obtain ⟨L2, eL2⟩ : ∃ z, z = q2 :: L := ⟨_, rfl⟩
  obtain ⟨f2, ef2⟩ : ∃ z, z = va_up f q2 (eI g 7 (fun _ => 0)) := ⟨_, rfl⟩
  rw [← eL2, ← ef2] at hP
  have hn_q2 : q2 ∉ L := fun h => hn0_q2 (hSub _ h)
  have n_sm_q2 : sm ≠ q2 := fun z => hn0_q2 (z ▸ hL_sm)
  have hf_sm : f2 sm = eO 6 [.int (nI d0), .ref sg, .ref sr, .ref ss, .ref sv, .ref sw] := by rw [ef2, va_up_ne _ _ n_sm_q2]; exact hf_sm
  have hL_sm : sm ∈ L2 := by rw [eL2]; exact List.mem_cons_of_mem _ hL_sm
  have n_sg_q2 : sg ≠ q2 := fun z => hn0_q2 (z ▸ hL_sg)
  have hf_sg : f2 sg = eI g 12 gl := by rw [ef2, va_up_ne _ _ n_sg_q2]; exact hf_sg
  have hL_sg : sg ∈ L2 := by rw [eL2]; exact List.mem_cons_of_mem _ hL_sg
  have n_sr_q2 : sr ≠ q2 := fun z => hn0_q2 (z ▸ hL_sr)
  have hf_sr : f2 sr = eZ g 12 rn := by rw [ef2, va_up_ne _ _ n_sr_q2]; exact hf_sr
  have hL_sr : sr ∈ L2 := by rw [eL2]; exact List.mem_cons_of_mem _ hL_sr
  have n_ss_q2 : ss ≠ q2 := fun z => hn0_q2 (z ▸ hL_ss)
  have hf_ss : f2 ss = eR g n (vilR fs n) := by rw [ef2, va_up_ne _ _ n_ss_q2]; exact hf_ss
  have hL_ss : ss ∈ L2 := by rw [eL2]; exact List.mem_cons_of_mem _ hL_ss
  have n_sv_q2 : sv ≠ q2 := fun z => hn0_q2 (z ▸ hL_sv)
  have hf_sv : f2 sv = eR g nv (vilR fv nv) := by rw [ef2, va_up_ne _ _ n_sv_q2]; exact hf_sv
  have hL_sv : sv ∈ L2 := by rw [eL2]; exact List.mem_cons_of_mem _ hL_sv
  have n_sw_q2 : sw ≠ q2 := fun z => hn0_q2 (z ▸ hL_sw)
  have hf_sw : f2 sw = eR g nv (vilR fw nv) := by rw [ef2, va_up_ne _ _ n_sw_q2]; exact hf_sw
  have hL_sw : sw ∈ L2 := by rw [eL2]; exact List.mem_cons_of_mem _ hL_sw
  have hf_q2 : f2 q2 = eI g 7 (fun _ => 0) := by rw [ef2]; exact va_up_self _ _ _
  have hL_q2 : q2 ∈ L2 := by rw [eL2]; exact List.mem_cons_self
  have hN : L2.Nodup := by rw [eL2]; exact List.nodup_cons.mpr ⟨hn0_q2, hN⟩
  have hA : ∀ a ∈ L2, AA L s.heap.size a := by rw [eL2]; exact fa_c hA_q2 hA
  have hSub : ∀ a ∈ L, a ∈ L2 := by rw [eL2]; exact fun a h => List.mem_cons_of_mem _ (hSub a h)
  replace hFr : FrN L f f2 [] := by rw [ef2]; exact hFr.up (Or.inr hn_q2)
  refine W.widen (k := 1) (n := 60 * (1)) (by omega) (by omega) ?_
  refine lv_dup hx hb dX5_counts_4 rfl ?_
  refine lv_iconst (v := 0) hx hb dX5_counts_5 (by decide) ?_
  refine lv_aload_n hx hb dX5_counts_6 rfl (lv_at hl 0 rfl) ?_
  refine pg_get (C := RX5) (T := TX5) (N := 6) hx hb hts hi_X5 hown hK hP hL_sm hf_sm rfl 0 (by decide) (hts (.fieldLink RX5 28 "BarometerLeagueLaw$Sim" "day" "I") (by decide +kernel)) (fun _ h9 => h9) rfl dX5_counts_7 ?_
  refine pn_iast (j := 0) hx hb hK hP hN hA hS hL_q2 hf_q2 rfl (by omega) (Nat.lt_of_lt_of_le (m := 100) (by omega) (by omega)) dX5_counts_10 (fun H locs hP hS => ?_)
  obtain ⟨f10, ef10⟩ : ∃ z, z = va_up f2 q2 (eI g 7 (upd (fun _ => 0) 0 (nI d0))) := ⟨_, rfl⟩
  replace hP : PP g L2 f10 H := by rw [ef10]; exact hP
  have hf_sm : f10 sm = eO 6 [.int (nI d0), .ref sg, .ref sr, .ref ss, .ref sv, .ref sw] := by rw [ef10, va_up_ne _ _ n_sm_q2]; exact hf_sm
  have hf_sg : f10 sg = eI g 12 gl := by rw [ef10, va_up_ne _ _ n_sg_q2]; exact hf_sg
  have hf_sr : f10 sr = eZ g 12 rn := by rw [ef10, va_up_ne _ _ n_sr_q2]; exact hf_sr
  have hf_ss : f10 ss = eR g n (vilR fs n) := by rw [ef10, va_up_ne _ _ n_ss_q2]; exact hf_ss
  have hf_sv : f10 sv = eR g nv (vilR fv nv) := by rw [ef10, va_up_ne _ _ n_sv_q2]; exact hf_sv
  have hf_sw : f10 sw = eR g nv (vilR fw nv) := by rw [ef10, va_up_ne _ _ n_sw_q2]; exact hf_sw
  have hf_q2 : f10 q2 = eI g 7 (upd (fun _ => 0) 0 (nI d0)) := by rw [ef10]; exact va_up_self _ _ _
  replace hFr : FrN L f f10 [] := by rw [ef10]; exact hFr.up (Or.inr hn_q2)
  refine lv_dup hx hb dX5_counts_11 rfl ?_
  refine lv_iconst (v := 1) hx hb dX5_counts_12 (by decide) ?_
  refine lv_aload_n hx hb dX5_counts_13 rfl (lv_at hl 0 rfl) ?_
  refine pg_get (C := RX5) (T := TX5) (N := 6) hx hb hts hi_X5 hown hK hP hL_sm hf_sm rfl 3 (by decide) (hts (.fieldLink RX5 18 "BarometerLeagueLaw$Sim" "signs" "[[I") (by decide +kernel)) (fun _ h9 => h9) rfl dX5_counts_14 ?_
  refine pg_alen hx hb hK hP hL_ss hf_ss 4 rfl (v := nI n) rfl dX5_counts_17 ?_
  refine pn_iast (j := 1) hx hb hK hP hN hA hS hL_q2 hf_q2 rfl (by omega) (Nat.lt_of_lt_of_le (m := 100) (by omega) (by omega)) dX5_counts_18 (fun H locs hP hS => ?_)
  obtain ⟨f18, ef18⟩ : ∃ z, z = va_up f10 q2 (eI g 7 (upd (upd (fun _ => 0) 0 (nI d0)) 1 (nI n))) := ⟨_, rfl⟩
  replace hP : PP g L2 f18 H := by rw [ef18]; exact hP
  have hf_sm : f18 sm = eO 6 [.int (nI d0), .ref sg, .ref sr, .ref ss, .ref sv, .ref sw] := by rw [ef18, va_up_ne _ _ n_sm_q2]; exact hf_sm
  have hf_sg : f18 sg = eI g 12 gl := by rw [ef18, va_up_ne _ _ n_sg_q2]; exact hf_sg
  have hf_sr : f18 sr = eZ g 12 rn := by rw [ef18, va_up_ne _ _ n_sr_q2]; exact hf_sr
  have hf_ss : f18 ss = eR g n (vilR fs n) := by rw [ef18, va_up_ne _ _ n_ss_q2]; exact hf_ss
  have hf_sv : f18 sv = eR g nv (vilR fv nv) := by rw [ef18, va_up_ne _ _ n_sv_q2]; exact hf_sv
  have hf_sw : f18 sw = eR g nv (vilR fw nv) := by rw [ef18, va_up_ne _ _ n_sw_q2]; exact hf_sw
  have hf_q2 : f18 q2 = eI g 7 (upd (upd (fun _ => 0) 0 (nI d0)) 1 (nI n)) := by rw [ef18]; exact va_up_self _ _ _
  replace hFr : FrN L f f18 [] := by rw [ef18]; exact hFr.up (Or.inr hn_q2)
  refine lv_dup hx hb dX5_counts_19 rfl ?_
  refine lv_iconst (v := 2) hx hb dX5_counts_20 (by decide) ?_
  refine lv_aload_n hx hb dX5_counts_21 rfl (lv_at hl 0 rfl) ?_
  refine pg_get (C := RX5) (T := TX5) (N := 6) hx hb hts hi_X5 hown hK hP hL_sm hf_sm rfl 4 (by decide) (hts (.fieldLink RX5 22 "BarometerLeagueLaw$Sim" "villages" "[[I") (by decide +kernel)) (fun _ h9 => h9) rfl dX5_counts_22 ?_
  refine pg_alen hx hb hK hP hL_sv hf_sv 4 rfl (v := nI nv) rfl dX5_counts_25 ?_
  refine pn_iast (j := 2) hx hb hK hP hN hA hS hL_q2 hf_q2 rfl (by omega) (Nat.lt_of_lt_of_le (m := 100) (by omega) (by omega)) dX5_counts_26 (fun H locs hP hS => ?_)
  obtain ⟨f26, ef26⟩ : ∃ z, z = va_up f18 q2 (eI g 7 (upd (upd (upd (fun _ => 0) 0 (nI d0)) 1 (nI n)) 2 (nI nv))) := ⟨_, rfl⟩
  replace hP : PP g L2 f26 H := by rw [ef26]; exact hP
  have hf_sm : f26 sm = eO 6 [.int (nI d0), .ref sg, .ref sr, .ref ss, .ref sv, .ref sw] := by rw [ef26, va_up_ne _ _ n_sm_q2]; exact hf_sm
  have hf_sg : f26 sg = eI g 12 gl := by rw [ef26, va_up_ne _ _ n_sg_q2]; exact hf_sg
  have hf_sr : f26 sr = eZ g 12 rn := by rw [ef26, va_up_ne _ _ n_sr_q2]; exact hf_sr
  have hf_ss : f26 ss = eR g n (vilR fs n) := by rw [ef26, va_up_ne _ _ n_ss_q2]; exact hf_ss
  have hf_sv : f26 sv = eR g nv (vilR fv nv) := by rw [ef26, va_up_ne _ _ n_sv_q2]; exact hf_sv
  have hf_sw : f26 sw = eR g nv (vilR fw nv) := by rw [ef26, va_up_ne _ _ n_sw_q2]; exact hf_sw
  have hf_q2 : f26 q2 = eI g 7 (upd (upd (upd (fun _ => 0) 0 (nI d0)) 1 (nI n)) 2 (nI nv)) := by rw [ef26]; exact va_up_self _ _ _
  replace hFr : FrN L f f26 [] := by rw [ef26]; exact hFr.up (Or.inr hn_q2)
  refine lv_dup hx hb dX5_counts_27 rfl ?_
  refine lv_iconst (v := 3) hx hb dX5_counts_28 (by decide) ?_
  refine lv_iconst (v := 0) hx hb dX5_counts_29 (by decide) ?_
  refine pn_iast (j := 3) hx hb hK hP hN hA hS hL_q2 hf_q2 rfl (by omega) (Nat.lt_of_lt_of_le (m := 100) (by omega) (by omega)) dX5_counts_30 (fun H locs hP hS => ?_)
  obtain ⟨f30, ef30⟩ : ∃ z, z = va_up f26 q2 (eI g 7 (upd (upd (upd (upd (fun _ => 0) 0 (nI d0)) 1 (nI n)) 2 (nI nv)) 3 0)) := ⟨_, rfl⟩
  replace hP : PP g L2 f30 H := by rw [ef30]; exact hP
  have hf_sm : f30 sm = eO 6 [.int (nI d0), .ref sg, .ref sr, .ref ss, .ref sv, .ref sw] := by rw [ef30, va_up_ne _ _ n_sm_q2]; exact hf_sm
  have hf_sg : f30 sg = eI g 12 gl := by rw [ef30, va_up_ne _ _ n_sg_q2]; exact hf_sg
  have hf_sr : f30 sr = eZ g 12 rn := by rw [ef30, va_up_ne _ _ n_sr_q2]; exact hf_sr
  have hf_ss : f30 ss = eR g n (vilR fs n) := by rw [ef30, va_up_ne _ _ n_ss_q2]; exact hf_ss
  have hf_sv : f30 sv = eR g nv (vilR fv nv) := by rw [ef30, va_up_ne _ _ n_sv_q2]; exact hf_sv
  have hf_sw : f30 sw = eR g nv (vilR fw nv) := by rw [ef30, va_up_ne _ _ n_sw_q2]; exact hf_sw
  have hf_q2 : f30 q2 = eI g 7 (upd (upd (upd (upd (fun _ => 0) 0 (nI d0)) 1 (nI n)) 2 (nI nv)) 3 0) := by rw [ef30]; exact va_up_self _ _ _
  replace hFr : FrN L f f30 [] := by rw [ef30]; exact hFr.up (Or.inr hn_q2)
  refine lv_dup hx hb dX5_counts_31 rfl ?_
  refine lv_iconst (v := 4) hx hb dX5_counts_32 (by decide) ?_
  refine lv_iconst (v := 0) hx hb dX5_counts_33 (by decide) ?_
  refine pn_iast (j := 4) hx hb hK hP hN hA hS hL_q2 hf_q2 rfl (by omega) (Nat.lt_of_lt_of_le (m := 100) (by omega) (by omega)) dX5_counts_34 (fun H locs hP hS => ?_)
  obtain ⟨f34, ef34⟩ : ∃ z, z = va_up f30 q2 (eI g 7 (upd (upd (upd (upd (upd (fun _ => 0) 0 (nI d0)) 1 (nI n)) 2 (nI nv)) 3 0) 4 0)) := ⟨_, rfl⟩
  replace hP : PP g L2 f34 H := by rw [ef34]; exact hP
  have hf_sm : f34 sm = eO 6 [.int (nI d0), .ref sg, .ref sr, .ref ss, .ref sv, .ref sw] := by rw [ef34, va_up_ne _ _ n_sm_q2]; exact hf_sm
  have hf_sg : f34 sg = eI g 12 gl := by rw [ef34, va_up_ne _ _ n_sg_q2]; exact hf_sg
  have hf_sr : f34 sr = eZ g 12 rn := by rw [ef34, va_up_ne _ _ n_sr_q2]; exact hf_sr
  have hf_ss : f34 ss = eR g n (vilR fs n) := by rw [ef34, va_up_ne _ _ n_ss_q2]; exact hf_ss
  have hf_sv : f34 sv = eR g nv (vilR fv nv) := by rw [ef34, va_up_ne _ _ n_sv_q2]; exact hf_sv
  have hf_sw : f34 sw = eR g nv (vilR fw nv) := by rw [ef34, va_up_ne _ _ n_sw_q2]; exact hf_sw
  have hf_q2 : f34 q2 = eI g 7 (upd (upd (upd (upd (upd (fun _ => 0) 0 (nI d0)) 1 (nI n)) 2 (nI nv)) 3 0) 4 0) := by rw [ef34]; exact va_up_self _ _ _
  replace hFr : FrN L f f34 [] := by rw [ef34]; exact hFr.up (Or.inr hn_q2)
  refine lv_dup hx hb dX5_counts_35 rfl ?_
  refine lv_iconst (v := 5) hx hb dX5_counts_36 (by decide) ?_
  refine lv_iconst (v := 0) hx hb dX5_counts_37 (by decide) ?_
  refine pn_iast (j := 5) hx hb hK hP hN hA hS hL_q2 hf_q2 rfl (by omega) (Nat.lt_of_lt_of_le (m := 100) (by omega) (by omega)) dX5_counts_38 (fun H locs hP hS => ?_)
  obtain ⟨f38, ef38⟩ : ∃ z, z = va_up f34 q2 (eI g 7 (upd (upd (upd (upd (upd (upd (fun _ => 0) 0 (nI d0)) 1 (nI n)) 2 (nI nv)) 3 0) 4 0) 5 0)) := ⟨_, rfl⟩
  replace hP : PP g L2 f38 H := by rw [ef38]; exact hP
  have hf_sm : f38 sm = eO 6 [.int (nI d0), .ref sg, .ref sr, .ref ss, .ref sv, .ref sw] := by rw [ef38, va_up_ne _ _ n_sm_q2]; exact hf_sm
  have hf_sg : f38 sg = eI g 12 gl := by rw [ef38, va_up_ne _ _ n_sg_q2]; exact hf_sg
  have hf_sr : f38 sr = eZ g 12 rn := by rw [ef38, va_up_ne _ _ n_sr_q2]; exact hf_sr
  have hf_ss : f38 ss = eR g n (vilR fs n) := by rw [ef38, va_up_ne _ _ n_ss_q2]; exact hf_ss
  have hf_sv : f38 sv = eR g nv (vilR fv nv) := by rw [ef38, va_up_ne _ _ n_sv_q2]; exact hf_sv
  have hf_sw : f38 sw = eR g nv (vilR fw nv) := by rw [ef38, va_up_ne _ _ n_sw_q2]; exact hf_sw
  have hf_q2 : f38 q2 = eI g 7 (upd (upd (upd (upd (upd (upd (fun _ => 0) 0 (nI d0)) 1 (nI n)) 2 (nI nv)) 3 0) 4 0) 5 0) := by rw [ef38]; exact va_up_self _ _ _
  replace hFr : FrN L f f38 [] := by rw [ef38]; exact hFr.up (Or.inr hn_q2)
  refine lv_dup hx hb dX5_counts_39 rfl ?_
  refine lv_bipush (v := 6) hx hb dX5_counts_40 (by decide) ?_
  refine lv_iconst (v := 0) hx hb dX5_counts_42 (by decide) ?_
  refine pn_iast (j := 6) hx hb hK hP hN hA hS hL_q2 hf_q2 rfl (by omega) (Nat.lt_of_lt_of_le (m := 100) (by omega) (by omega)) dX5_counts_43 (fun H locs hP hS => ?_)
  obtain ⟨f43, ef43⟩ : ∃ z, z = va_up f38 q2 (eI g 7 (upd (upd (upd (upd (upd (upd (upd (fun _ => 0) 0 (nI d0)) 1 (nI n)) 2 (nI nv)) 3 0) 4 0) 5 0) 6 0)) := ⟨_, rfl⟩
  replace hP : PP g L2 f43 H := by rw [ef43]; exact hP
  have hf_sm : f43 sm = eO 6 [.int (nI d0), .ref sg, .ref sr, .ref ss, .ref sv, .ref sw] := by rw [ef43, va_up_ne _ _ n_sm_q2]; exact hf_sm
  have hf_sg : f43 sg = eI g 12 gl := by rw [ef43, va_up_ne _ _ n_sg_q2]; exact hf_sg
  have hf_sr : f43 sr = eZ g 12 rn := by rw [ef43, va_up_ne _ _ n_sr_q2]; exact hf_sr
  have hf_ss : f43 ss = eR g n (vilR fs n) := by rw [ef43, va_up_ne _ _ n_ss_q2]; exact hf_ss
  have hf_sv : f43 sv = eR g nv (vilR fv nv) := by rw [ef43, va_up_ne _ _ n_sv_q2]; exact hf_sv
  have hf_sw : f43 sw = eR g nv (vilR fw nv) := by rw [ef43, va_up_ne _ _ n_sw_q2]; exact hf_sw
  have hf_q2 : f43 q2 = eI g 7 (upd (upd (upd (upd (upd (upd (upd (fun _ => 0) 0 (nI d0)) 1 (nI n)) 2 (nI nv)) 3 0) 4 0) 5 0) 6 0) := by rw [ef43]; exact va_up_self _ _ _
  replace hFr : FrN L f f43 [] := by rw [ef43]; exact hFr.up (Or.inr hn_q2)
  refine lv_astore_n (lv' := [(1, .ref q2), (0, .ref sm)]) hx hb dX5_counts_44 rfl hl (by decide) rfl (fun ls hl => ?_)
  refine lv_iconst (v := 0) hx hb dX5_counts_45 (by decide) ?_
  refine lv_istore_n (lv' := [(2, .int 0), (1, .ref q2), (0, .ref sm)]) hx hb dX5_counts_46 rfl hl (by decide) rfl (fun ls hl => ?_)
  have hf_q2 : f43 q2 = eI g 7 (cntA (nI d0) (nI n) (nI nv) 0 0 0 0) := by rw [hf_q2]; exact congrArg (eI g 7) cn_0
  have K47 : ∀ (n47 : Nat) (i : Nat) (x3 : Int32) (x4 : Int32) (x5 : Int32) (f47 : Nat → va_E) (H : Heap) (locs : List Loc), nv - i < n47 → i ≤ nv → x3 = sumN (fun v => (vs v).2.1) i → x4 = sumN (fun v => (vs v).2.2.1) i → x5 = sumN (fun v => b2i (decide (0 < leadN (fun j => truth (sayB (kd j) (nu j) gl rn d0)) (vs v).2.2.2.2 n))) i → f47 sm = eO 6 [.int (nI d0), .ref sg, .ref sr, .ref ss, .ref sv, .ref sw] → f47 sg = eI g 12 gl → f47 sr = eZ g 12 rn → f47 ss = eR g n (vilR fs n) → f47 sv = eR g nv (vilR fv nv) → f47 sw = eR g nv (vilR fw nv) → f47 q2 = eI g 7 (cntA (nI d0) (nI n) (nI nv) x3 x4 x5 0) → FrN L f f47 [] → PP g L2 f47 H → va_S (AA L s.heap.size) s.heap H locs → ∀ (ls : Array Slot), lv_has ls 6 [(2, .int (nI i)), (1, .ref q2), (0, .ref sm)] → W p l e ({ frames := 2, cells := 1, slots := 60, locals := 49 } : Room) s m args below meth c H locs (1) (60 * (1)) Q (F0 m 47 ls []) := by
    intro n47
    induction n47 with
    | zero => intros; omega
    | succ n47 ih47 =>
      intro i x3 x4 x5 f47 H locs hm47 hi h3 h4 h5 hq47_0 hq47_1 hq47_2 hq47_3 hq47_4 hq47_5 hq47_6 hFr hP hS ls hl
      have hf_sm : f47 sm = eO 6 [.int (nI d0), .ref sg, .ref sr, .ref ss, .ref sv, .ref sw] := hq47_0
      have hf_sg : f47 sg = eI g 12 gl := hq47_1
      have hf_sr : f47 sr = eZ g 12 rn := hq47_2
      have hf_ss : f47 ss = eR g n (vilR fs n) := hq47_3
      have hf_sv : f47 sv = eR g nv (vilR fv nv) := hq47_4
      have hf_sw : f47 sw = eR g nv (vilR fw nv) := hq47_5
      have hf_q2 : f47 q2 = eI g 7 (cntA (nI d0) (nI n) (nI nv) x3 x4 x5 0) := hq47_6
      refine lv_iload_n hx hb dX5_counts_47 rfl (lv_at hl 0 rfl) ?_
      refine lv_aload_n hx hb dX5_counts_48 rfl (lv_at hl 2 rfl) ?_
      refine pg_get (C := RX5) (T := TX5) (N := 6) hx hb hts hi_X5 hown hK hP hL_sm hf_sm rfl 4 (by decide) (hts (.fieldLink RX5 22 "BarometerLeagueLaw$Sim" "villages" "[[I") (by decide +kernel)) (fun _ h9 => h9) rfl dX5_counts_49 ?_
      refine pg_alen hx hb hK hP hL_sv hf_sv 4 rfl (v := nI nv) rfl dX5_counts_52 ?_
      refine lv_icmp_ge (tgt := 109) hx hb dX5_counts_53 (by decide) (fun c53 => ?_) (fun c53 => ?_)
      · skip
        have c53 : nv ≤ i := (nI_leI (a := nv) (b := i) (by omega) (by omega)).mp (show nI nv ≤ nI i from c53)
        refine lv_aload_n hx hb dX5_counts_109 rfl (lv_at hl 2 rfl) ?_
        refine pg_get (C := RX5) (T := TX5) (N := 6) hx hb hts hi_X5 hown hK hP hL_sm hf_sm rfl 2 (by decide) (hts (.fieldLink RX5 13 "BarometerLeagueLaw$Sim" "rain" "[Z") (by decide +kernel)) (fun _ h9 => h9) rfl dX5_counts_110 ?_
        refine lv_astore_n (lv' := [(2, .ref sr), (1, .ref q2), (0, .ref sm)]) hx hb dX5_counts_113 rfl hl (by decide) rfl (fun ls hl => ?_)
        refine lv_aload_n hx hb dX5_counts_114 rfl (lv_at hl 0 rfl) ?_
        refine pg_alen hx hb hK hP hL_sr hf_sr 1 rfl (v := nI 12) rfl dX5_counts_115 ?_
        refine lv_istore_n (lv' := [(3, .int (nI 12)), (2, .ref sr), (1, .ref q2), (0, .ref sm)]) hx hb dX5_counts_116 rfl hl (by decide) rfl (fun ls hl => ?_)
        refine lv_iconst (v := 0) hx hb dX5_counts_117 (by decide) ?_
        refine lv_istore (lv' := [(4, .int 0), (3, .int (nI 12)), (2, .ref sr), (1, .ref q2), (0, .ref sm)]) hx hb dX5_counts_118 hl (by decide) rfl (fun ls hl => ?_)
        have K120 : ∀ (n120 : Nat) (i2 : Nat) (x6 : Int32) (f120 : Nat → va_E) (H : Heap) (locs : List Loc), 12 - i2 < n120 → i2 ≤ 12 → x6 = sumN rn i2 → f120 sm = eO 6 [.int (nI d0), .ref sg, .ref sr, .ref ss, .ref sv, .ref sw] → f120 sg = eI g 12 gl → f120 sr = eZ g 12 rn → f120 ss = eR g n (vilR fs n) → f120 sv = eR g nv (vilR fv nv) → f120 sw = eR g nv (vilR fw nv) → f120 q2 = eI g 7 (cntA (nI d0) (nI n) (nI nv) x3 x4 x5 x6) → FrN L f f120 [] → PP g L2 f120 H → va_S (AA L s.heap.size) s.heap H locs → ∀ (ls : Array Slot), lv_has ls 6 [(4, .int (nI i2)), (3, .int 12), (2, .ref sr), (1, .ref q2), (0, .ref sm)] → W p l e ({ frames := 2, cells := 1, slots := 60, locals := 49 } : Room) s m args below meth c H locs (1) (60 * (1)) Q (F0 m 120 ls []) := by
          intro n120
          induction n120 with
          | zero => intros; omega
          | succ n120 ih120 =>
            intro i2 x6 f120 H locs hm120 hi2 h6 hq120_0 hq120_1 hq120_2 hq120_3 hq120_4 hq120_5 hq120_6 hFr hP hS ls hl
            have hf_sm : f120 sm = eO 6 [.int (nI d0), .ref sg, .ref sr, .ref ss, .ref sv, .ref sw] := hq120_0
            have hf_sg : f120 sg = eI g 12 gl := hq120_1
            have hf_sr : f120 sr = eZ g 12 rn := hq120_2
            have hf_ss : f120 ss = eR g n (vilR fs n) := hq120_3
            have hf_sv : f120 sv = eR g nv (vilR fv nv) := hq120_4
            have hf_sw : f120 sw = eR g nv (vilR fw nv) := hq120_5
            have hf_q2 : f120 q2 = eI g 7 (cntA (nI d0) (nI n) (nI nv) x3 x4 x5 x6) := hq120_6
            refine lv_iload hx hb dX5_counts_120 (lv_at hl 0 rfl) ?_
            refine lv_iload_n hx hb dX5_counts_122 rfl (lv_at hl 1 rfl) ?_
            refine lv_icmp_ge (tgt := 155) hx hb dX5_counts_123 (by decide) (fun c123 => ?_) (fun c123 => ?_)
            · skip
              have c123 : 12 ≤ i2 := (nI_leI (a := 12) (b := i2) (by omega) (by omega)).mp (show nI 12 ≤ nI i2 from c123)
              refine lv_aload_n hx hb dX5_counts_155 rfl (lv_at hl 3 rfl) ?_
              exact hend (q2) L2 f120 _ _ _ _ _ _ ⟨hN, hSub, hA⟩ (⟨hn_q2, hL_q2, by rw [hf_q2, h3, h4, h5, h6, show i = nv from (by omega), show i2 = 12 from (by omega)], hFr⟩) hP hS (by show 1 ≤ 1; omega) (by show 60 * (1) ≤ 60; omega) dX5_counts_156
            · skip
              have c123 : ¬ 12 ≤ i2 := fun h => c123 ((nI_leI (a := 12) (b := i2) (by omega) (by omega)).mpr h)
              refine lv_aload_n hx hb dX5_counts_126 rfl (lv_at hl 2 rfl) ?_
              refine lv_iload hx hb dX5_counts_127 (lv_at hl 0 rfl) ?_
              refine pn_zald (j := i2) hx hb hK hP hL_sr hf_sr rfl (by omega) (Nat.lt_of_lt_of_le (m := 100) (by omega) (by omega)) dX5_counts_129 ?_
              refine lv_istore (lv' := [(5, .int (rn i2)), (4, .int (nI i2)), (3, .int 12), (2, .ref sr), (1, .ref q2), (0, .ref sm)]) hx hb dX5_counts_130 hl (by decide) rfl (fun ls hl => ?_)
              refine lv_aload_n hx hb dX5_counts_132 rfl (lv_at hl 4 rfl) ?_
              refine lv_bipush (v := 6) hx hb dX5_counts_133 (by decide) ?_
              refine lv_dup2_11 hx hb dX5_counts_135 rfl rfl ?_
              refine pn_iald (j := 6) hx hb hK hP hL_q2 hf_q2 rfl (by omega) (Nat.lt_of_lt_of_le (m := 100) (by omega) (by omega)) dX5_counts_136 ?_
              refine lv_iload hx hb dX5_counts_137 (lv_at hl 0 rfl) ?_
              refine lv_if_eq (tgt := 146) hx hb dX5_counts_139 (by decide) (fun c139 => ?_) (fun c139 => ?_)
              · skip
                refine lv_iconst (v := 0) hx hb dX5_counts_146 (by decide) ?_
                refine lv_iadd hx hb dX5_counts_147 ?_
                refine lv_topi (fun v147 ev147 => ?_)
                refine pn_iast (j := 6) hx hb hK hP hN hA hS hL_q2 hf_q2 rfl (by omega) (Nat.lt_of_lt_of_le (m := 100) (by omega) (by omega)) dX5_counts_148 (fun H locs hP hS => ?_)
                obtain ⟨f148, ef148⟩ : ∃ z, z = va_up f120 q2 (eI g 7 (upd (cntA (nI d0) (nI n) (nI nv) x3 x4 x5 x6) 6 v147)) := ⟨_, rfl⟩
                replace hP : PP g L2 f148 H := by rw [ef148]; exact hP
                have hf_sm : f148 sm = eO 6 [.int (nI d0), .ref sg, .ref sr, .ref ss, .ref sv, .ref sw] := by rw [ef148, va_up_ne _ _ n_sm_q2]; exact hf_sm
                have hf_sg : f148 sg = eI g 12 gl := by rw [ef148, va_up_ne _ _ n_sg_q2]; exact hf_sg
                have hf_sr : f148 sr = eZ g 12 rn := by rw [ef148, va_up_ne _ _ n_sr_q2]; exact hf_sr
                have hf_ss : f148 ss = eR g n (vilR fs n) := by rw [ef148, va_up_ne _ _ n_ss_q2]; exact hf_ss
                have hf_sv : f148 sv = eR g nv (vilR fv nv) := by rw [ef148, va_up_ne _ _ n_sv_q2]; exact hf_sv
                have hf_sw : f148 sw = eR g nv (vilR fw nv) := by rw [ef148, va_up_ne _ _ n_sw_q2]; exact hf_sw
                have hf_q2 : f148 q2 = eI g 7 (upd (cntA (nI d0) (nI n) (nI nv) x3 x4 x5 x6) 6 v147) := by rw [ef148]; exact va_up_self _ _ _
                replace hFr : FrN L f f148 [] := by rw [ef148]; exact hFr.up (Or.inr hn_q2)
                rw [cn6] at hf_q2
                refine lv_iinc (v := nI (i2 + 1)) (lv' := [(4, .int (nI (i2 + 1))), (5, .int (rn i2)), (3, .int 12), (2, .ref sr), (1, .ref q2), (0, .ref sm)]) hx hb dX5_counts_149 hl (k := 1) rfl (nI_1 _) (by decide) rfl (fun ls hl => ?_)
                refine lv_goto (tgt := 120) hx hb dX5_counts_152 (by decide) ?_
                refine W.widen (k := 1) (n := 60 * (1)) (by omega) (by omega) ?_
                exact ih120 (i2 + 1) v147 f148 H locs (by omega) (by omega) (sumN_e h6 (rn_f (hrn i2 (by omega)) c139) ev147) hf_sm hf_sg hf_sr hf_ss hf_sv hf_sw hf_q2 hFr hP hS ls (lv_sub hl [0, 2, 3, 4, 5] rfl)
              · skip
                refine lv_iconst (v := 1) hx hb dX5_counts_142 (by decide) ?_
                refine lv_goto (tgt := 147) hx hb dX5_counts_143 (by decide) ?_
                refine lv_iadd hx hb dX5_counts_147 ?_
                refine lv_topi (fun v147 ev147 => ?_)
                refine pn_iast (j := 6) hx hb hK hP hN hA hS hL_q2 hf_q2 rfl (by omega) (Nat.lt_of_lt_of_le (m := 100) (by omega) (by omega)) dX5_counts_148 (fun H locs hP hS => ?_)
                obtain ⟨f148, ef148⟩ : ∃ z, z = va_up f120 q2 (eI g 7 (upd (cntA (nI d0) (nI n) (nI nv) x3 x4 x5 x6) 6 v147)) := ⟨_, rfl⟩
                replace hP : PP g L2 f148 H := by rw [ef148]; exact hP
                have hf_sm : f148 sm = eO 6 [.int (nI d0), .ref sg, .ref sr, .ref ss, .ref sv, .ref sw] := by rw [ef148, va_up_ne _ _ n_sm_q2]; exact hf_sm
                have hf_sg : f148 sg = eI g 12 gl := by rw [ef148, va_up_ne _ _ n_sg_q2]; exact hf_sg
                have hf_sr : f148 sr = eZ g 12 rn := by rw [ef148, va_up_ne _ _ n_sr_q2]; exact hf_sr
                have hf_ss : f148 ss = eR g n (vilR fs n) := by rw [ef148, va_up_ne _ _ n_ss_q2]; exact hf_ss
                have hf_sv : f148 sv = eR g nv (vilR fv nv) := by rw [ef148, va_up_ne _ _ n_sv_q2]; exact hf_sv
                have hf_sw : f148 sw = eR g nv (vilR fw nv) := by rw [ef148, va_up_ne _ _ n_sw_q2]; exact hf_sw
                have hf_q2 : f148 q2 = eI g 7 (upd (cntA (nI d0) (nI n) (nI nv) x3 x4 x5 x6) 6 v147) := by rw [ef148]; exact va_up_self _ _ _
                replace hFr : FrN L f f148 [] := by rw [ef148]; exact hFr.up (Or.inr hn_q2)
                rw [cn6] at hf_q2
                refine lv_iinc (v := nI (i2 + 1)) (lv' := [(4, .int (nI (i2 + 1))), (5, .int (rn i2)), (3, .int 12), (2, .ref sr), (1, .ref q2), (0, .ref sm)]) hx hb dX5_counts_149 hl (k := 1) rfl (nI_1 _) (by decide) rfl (fun ls hl => ?_)
                refine lv_goto (tgt := 120) hx hb dX5_counts_152 (by decide) ?_
                refine W.widen (k := 1) (n := 60 * (1)) (by omega) (by omega) ?_
                exact ih120 (i2 + 1) v147 f148 H locs (by omega) (by omega) (sumN_e h6 (rn_t (hrn i2 (by omega)) c139) ev147) hf_sm hf_sg hf_sr hf_ss hf_sv hf_sw hf_q2 hFr hP hS ls (lv_sub hl [0, 2, 3, 4, 5] rfl)
        refine W.widen (k := 1) (n := 60 * (1)) (by omega) (by omega) ?_
        exact K120 _ 0 0 f47 _ _ (Nat.lt_succ_self _) (Nat.zero_le _) (rfl) hf_sm hf_sg hf_sr hf_ss hf_sv hf_sw hf_q2 hFr hP hS ls (lv_sub hl [0, 1, 2, 3, 4] rfl)
      · skip
        have c53 : ¬ nv ≤ i := fun h => c53 ((nI_leI (a := nv) (b := i) (by omega) (by omega)).mpr h)
        refine lv_aload_n hx hb dX5_counts_56 rfl (lv_at hl 1 rfl) ?_
        refine lv_iconst (v := 3) hx hb dX5_counts_57 (by decide) ?_
        refine lv_dup2_11 hx hb dX5_counts_58 rfl rfl ?_
        refine pn_iald (j := 3) hx hb hK hP hL_q2 hf_q2 rfl (by omega) (Nat.lt_of_lt_of_le (m := 100) (by omega) (by omega)) dX5_counts_59 ?_
        refine lv_aload_n hx hb dX5_counts_60 rfl (lv_at hl 2 rfl) ?_
        have hSRc := hSR.grow hSub (fun x hx => hFr x hx List.not_mem_nil)
        have hVRc := hVR.grow hSub (fun x hx => hFr x hx List.not_mem_nil)
        have hWRc := hWR.grow hSub (fun x hx => hFr x hx List.not_mem_nil)
        refine pg_get (C := RX5) (T := TX5) (N := 6) hx hb hts hi_X5 hown hK hP hL_sm hf_sm rfl 4 (by decide) (hts (.fieldLink RX5 22 "BarometerLeagueLaw$Sim" "villages" "[[I") (by decide +kernel)) (fun _ h9 => h9) rfl dX5_counts_61 ?_
        refine lv_iload_n hx hb dX5_counts_64 rfl (lv_at hl 0 rfl) ?_
        refine pn_rald (j := i) hx hb hK hP hL_sv hf_sv rfl (by omega) (Nat.lt_of_lt_of_le (m := 100) (by omega) (by omega)) (vilR_at (by omega)) dX5_counts_65 ?_
        obtain ⟨hL_fv_i, z65, hf_fv_i, hz65⟩ := hVRc i (by omega)
        refine lv_iconst (v := 0) hx hb dX5_counts_66 (by decide) ?_
        refine pn_iald (j := 0) hx hb hK hP hL_fv_i hf_fv_i rfl (by omega) (Nat.lt_of_lt_of_le (m := 100) (by omega) (by omega)) dX5_counts_67 ?_
        refine lv_iadd hx hb dX5_counts_68 ?_
        refine lv_topi (fun v68 ev68 => ?_)
        refine pn_iast (j := 3) hx hb hK hP hN hA hS hL_q2 hf_q2 rfl (by omega) (Nat.lt_of_lt_of_le (m := 100) (by omega) (by omega)) dX5_counts_69 (fun H locs hP hS => ?_)
        obtain ⟨f69, ef69⟩ : ∃ z, z = va_up f47 q2 (eI g 7 (upd (cntA (nI d0) (nI n) (nI nv) x3 x4 x5 0) 3 v68)) := ⟨_, rfl⟩
        replace hP : PP g L2 f69 H := by rw [ef69]; exact hP
        have hf_sm : f69 sm = eO 6 [.int (nI d0), .ref sg, .ref sr, .ref ss, .ref sv, .ref sw] := by rw [ef69, va_up_ne _ _ n_sm_q2]; exact hf_sm
        have hf_sg : f69 sg = eI g 12 gl := by rw [ef69, va_up_ne _ _ n_sg_q2]; exact hf_sg
        have hf_sr : f69 sr = eZ g 12 rn := by rw [ef69, va_up_ne _ _ n_sr_q2]; exact hf_sr
        have hf_ss : f69 ss = eR g n (vilR fs n) := by rw [ef69, va_up_ne _ _ n_ss_q2]; exact hf_ss
        have hf_sv : f69 sv = eR g nv (vilR fv nv) := by rw [ef69, va_up_ne _ _ n_sv_q2]; exact hf_sv
        have hf_sw : f69 sw = eR g nv (vilR fw nv) := by rw [ef69, va_up_ne _ _ n_sw_q2]; exact hf_sw
        have hf_q2 : f69 q2 = eI g 7 (upd (cntA (nI d0) (nI n) (nI nv) x3 x4 x5 0) 3 v68) := by rw [ef69]; exact va_up_self _ _ _
        replace hFr : FrN L f f69 [] := by rw [ef69]; exact hFr.up (Or.inr hn_q2)
        rw [cn3] at hf_q2
        refine lv_aload_n hx hb dX5_counts_70 rfl (lv_at hl 1 rfl) ?_
        refine lv_iconst (v := 4) hx hb dX5_counts_71 (by decide) ?_
        refine lv_dup2_11 hx hb dX5_counts_72 rfl rfl ?_
        refine pn_iald (j := 4) hx hb hK hP hL_q2 hf_q2 rfl (by omega) (Nat.lt_of_lt_of_le (m := 100) (by omega) (by omega)) dX5_counts_73 ?_
        refine lv_aload_n hx hb dX5_counts_74 rfl (lv_at hl 2 rfl) ?_
        have hSRc := hSR.grow hSub (fun x hx => hFr x hx List.not_mem_nil)
        have hVRc := hVR.grow hSub (fun x hx => hFr x hx List.not_mem_nil)
        have hWRc := hWR.grow hSub (fun x hx => hFr x hx List.not_mem_nil)
        refine pg_get (C := RX5) (T := TX5) (N := 6) hx hb hts hi_X5 hown hK hP hL_sm hf_sm rfl 4 (by decide) (hts (.fieldLink RX5 22 "BarometerLeagueLaw$Sim" "villages" "[[I") (by decide +kernel)) (fun _ h9 => h9) rfl dX5_counts_75 ?_
        refine lv_iload_n hx hb dX5_counts_78 rfl (lv_at hl 0 rfl) ?_
        refine pn_rald (j := i) hx hb hK hP hL_sv hf_sv rfl (by omega) (Nat.lt_of_lt_of_le (m := 100) (by omega) (by omega)) (vilR_at (by omega)) dX5_counts_79 ?_
        obtain ⟨hL_fv_i, z79, hf_fv_i, hz79⟩ := hVRc i (by omega)
        refine lv_iconst (v := 1) hx hb dX5_counts_80 (by decide) ?_
        refine pn_iald (j := 1) hx hb hK hP hL_fv_i hf_fv_i rfl (by omega) (Nat.lt_of_lt_of_le (m := 100) (by omega) (by omega)) dX5_counts_81 ?_
        refine lv_iadd hx hb dX5_counts_82 ?_
        refine lv_topi (fun v82 ev82 => ?_)
        refine pn_iast (j := 4) hx hb hK hP hN hA hS hL_q2 hf_q2 rfl (by omega) (Nat.lt_of_lt_of_le (m := 100) (by omega) (by omega)) dX5_counts_83 (fun H locs hP hS => ?_)
        obtain ⟨f83, ef83⟩ : ∃ z, z = va_up f69 q2 (eI g 7 (upd (cntA (nI d0) (nI n) (nI nv) v68 x4 x5 0) 4 v82)) := ⟨_, rfl⟩
        replace hP : PP g L2 f83 H := by rw [ef83]; exact hP
        have hf_sm : f83 sm = eO 6 [.int (nI d0), .ref sg, .ref sr, .ref ss, .ref sv, .ref sw] := by rw [ef83, va_up_ne _ _ n_sm_q2]; exact hf_sm
        have hf_sg : f83 sg = eI g 12 gl := by rw [ef83, va_up_ne _ _ n_sg_q2]; exact hf_sg
        have hf_sr : f83 sr = eZ g 12 rn := by rw [ef83, va_up_ne _ _ n_sr_q2]; exact hf_sr
        have hf_ss : f83 ss = eR g n (vilR fs n) := by rw [ef83, va_up_ne _ _ n_ss_q2]; exact hf_ss
        have hf_sv : f83 sv = eR g nv (vilR fv nv) := by rw [ef83, va_up_ne _ _ n_sv_q2]; exact hf_sv
        have hf_sw : f83 sw = eR g nv (vilR fw nv) := by rw [ef83, va_up_ne _ _ n_sw_q2]; exact hf_sw
        have hf_q2 : f83 q2 = eI g 7 (upd (cntA (nI d0) (nI n) (nI nv) v68 x4 x5 0) 4 v82) := by rw [ef83]; exact va_up_self _ _ _
        replace hFr : FrN L f f83 [] := by rw [ef83]; exact hFr.up (Or.inr hn_q2)
        rw [cn4] at hf_q2
        refine lv_aload_n hx hb dX5_counts_84 rfl (lv_at hl 1 rfl) ?_
        refine lv_iconst (v := 5) hx hb dX5_counts_85 (by decide) ?_
        refine lv_dup2_11 hx hb dX5_counts_86 rfl rfl ?_
        refine pn_iald (j := 5) hx hb hK hP hL_q2 hf_q2 rfl (by omega) (Nat.lt_of_lt_of_le (m := 100) (by omega) (by omega)) dX5_counts_87 ?_
        have hSRc := hSR.grow hSub (fun x hx => hFr x hx List.not_mem_nil)
        have hVRc := hVR.grow hSub (fun x hx => hFr x hx List.not_mem_nil)
        have hWRc := hWR.grow hSub (fun x hx => hFr x hx List.not_mem_nil)
        refine lv_aload_n hx hb dX5_counts_88 rfl (lv_at hl 2 rfl) ?_
        refine lv_iload_n hx hb dX5_counts_89 rfl (lv_at hl 0 rfl) ?_
        refine ro_V (As := [.int (nI i)]) (rest := [.int ((cntA (nI d0) (nI n) (nI nv) v68 v82 x5 0) 5), .int 5, .ref q2]) ⟨hx, hb, hml, hown, hts⟩ (m_X5_lean l g L2 f83 _ _ _ _ _ _ _ _ _ _ _ _ _ _ _ _ i hL_sm hf_sm hL_sg hf_sg hL_sr hf_sr hL_ss hf_ss hL_sw hf_sw hn hrn hnu hgl hSRc hWRc hd (by omega) hnv) (cwV 1 hts gX5_counts_X5_lean rfl rfl rfl (by decide +kernel) ⟨Nat.le_of_ble_eq_true rfl, Nat.le_of_ble_eq_true rfl⟩) hK hP hL_sm hf_sm rfl rfl hl.1 rfl (Nat.le_of_ble_eq_true rfl) dX5_counts_90 ⟨(by show 1 ≤ 1; omega), (by show 60 * (1) ≤ 60; omega)⟩ (fun r90 hr90 => ?_)
        have hr90 : r90 = leadN (fun j => truth (sayB (kd j) (nu j) gl rn d0)) (vs i).2.2.2.2 n := hr90
        subst hr90
        refine lv_if_le (tgt := 100) hx hb dX5_counts_93 (by decide) (fun c93 => ?_) (fun c93 => ?_)
        · skip
          refine lv_iconst (v := 0) hx hb dX5_counts_100 (by decide) ?_
          refine lv_iadd hx hb dX5_counts_101 ?_
          refine lv_topi (fun v101 ev101 => ?_)
          refine pn_iast (j := 5) hx hb hK hP hN hA hS hL_q2 hf_q2 rfl (by omega) (Nat.lt_of_lt_of_le (m := 100) (by omega) (by omega)) dX5_counts_102 (fun H locs hP hS => ?_)
          obtain ⟨f102, ef102⟩ : ∃ z, z = va_up f83 q2 (eI g 7 (upd (cntA (nI d0) (nI n) (nI nv) v68 v82 x5 0) 5 v101)) := ⟨_, rfl⟩
          replace hP : PP g L2 f102 H := by rw [ef102]; exact hP
          have hf_sm : f102 sm = eO 6 [.int (nI d0), .ref sg, .ref sr, .ref ss, .ref sv, .ref sw] := by rw [ef102, va_up_ne _ _ n_sm_q2]; exact hf_sm
          have hf_sg : f102 sg = eI g 12 gl := by rw [ef102, va_up_ne _ _ n_sg_q2]; exact hf_sg
          have hf_sr : f102 sr = eZ g 12 rn := by rw [ef102, va_up_ne _ _ n_sr_q2]; exact hf_sr
          have hf_ss : f102 ss = eR g n (vilR fs n) := by rw [ef102, va_up_ne _ _ n_ss_q2]; exact hf_ss
          have hf_sv : f102 sv = eR g nv (vilR fv nv) := by rw [ef102, va_up_ne _ _ n_sv_q2]; exact hf_sv
          have hf_sw : f102 sw = eR g nv (vilR fw nv) := by rw [ef102, va_up_ne _ _ n_sw_q2]; exact hf_sw
          have hf_q2 : f102 q2 = eI g 7 (upd (cntA (nI d0) (nI n) (nI nv) v68 v82 x5 0) 5 v101) := by rw [ef102]; exact va_up_self _ _ _
          replace hFr : FrN L f f102 [] := by rw [ef102]; exact hFr.up (Or.inr hn_q2)
          rw [cn5] at hf_q2
          refine lv_iinc (v := nI (i + 1)) (lv' := [(2, .int (nI (i + 1))), (1, .ref q2), (0, .ref sm)]) hx hb dX5_counts_103 hl (k := 0) rfl (nI_1 _) (by decide) rfl (fun ls hl => ?_)
          refine lv_goto (tgt := 47) hx hb dX5_counts_106 (by decide) ?_
          refine W.widen (k := 1) (n := 60 * (1)) (by omega) (by omega) ?_
          exact ih47 (i + 1) v68 v82 v101 f102 H locs (by omega) (by omega) (sumN_e h3 (hz65 0 (by decide)) ev68) (sumN_e h4 (hz79 1 (by decide)) ev82) (sumN_e h5 (gu_f c93) ev101) hf_sm hf_sg hf_sr hf_ss hf_sv hf_sw hf_q2 hFr hP hS ls (lv_sub hl [0, 1, 2] rfl)
        · skip
          refine lv_iconst (v := 1) hx hb dX5_counts_96 (by decide) ?_
          refine lv_goto (tgt := 101) hx hb dX5_counts_97 (by decide) ?_
          refine lv_iadd hx hb dX5_counts_101 ?_
          refine lv_topi (fun v101 ev101 => ?_)
          refine pn_iast (j := 5) hx hb hK hP hN hA hS hL_q2 hf_q2 rfl (by omega) (Nat.lt_of_lt_of_le (m := 100) (by omega) (by omega)) dX5_counts_102 (fun H locs hP hS => ?_)
          obtain ⟨f102, ef102⟩ : ∃ z, z = va_up f83 q2 (eI g 7 (upd (cntA (nI d0) (nI n) (nI nv) v68 v82 x5 0) 5 v101)) := ⟨_, rfl⟩
          replace hP : PP g L2 f102 H := by rw [ef102]; exact hP
          have hf_sm : f102 sm = eO 6 [.int (nI d0), .ref sg, .ref sr, .ref ss, .ref sv, .ref sw] := by rw [ef102, va_up_ne _ _ n_sm_q2]; exact hf_sm
          have hf_sg : f102 sg = eI g 12 gl := by rw [ef102, va_up_ne _ _ n_sg_q2]; exact hf_sg
          have hf_sr : f102 sr = eZ g 12 rn := by rw [ef102, va_up_ne _ _ n_sr_q2]; exact hf_sr
          have hf_ss : f102 ss = eR g n (vilR fs n) := by rw [ef102, va_up_ne _ _ n_ss_q2]; exact hf_ss
          have hf_sv : f102 sv = eR g nv (vilR fv nv) := by rw [ef102, va_up_ne _ _ n_sv_q2]; exact hf_sv
          have hf_sw : f102 sw = eR g nv (vilR fw nv) := by rw [ef102, va_up_ne _ _ n_sw_q2]; exact hf_sw
          have hf_q2 : f102 q2 = eI g 7 (upd (cntA (nI d0) (nI n) (nI nv) v68 v82 x5 0) 5 v101) := by rw [ef102]; exact va_up_self _ _ _
          replace hFr : FrN L f f102 [] := by rw [ef102]; exact hFr.up (Or.inr hn_q2)
          rw [cn5] at hf_q2
          refine lv_iinc (v := nI (i + 1)) (lv' := [(2, .int (nI (i + 1))), (1, .ref q2), (0, .ref sm)]) hx hb dX5_counts_103 hl (k := 0) rfl (nI_1 _) (by decide) rfl (fun ls hl => ?_)
          refine lv_goto (tgt := 47) hx hb dX5_counts_106 (by decide) ?_
          refine W.widen (k := 1) (n := 60 * (1)) (by omega) (by omega) ?_
          exact ih47 (i + 1) v68 v82 v101 f102 H locs (by omega) (by omega) (sumN_e h3 (hz65 0 (by decide)) ev68) (sumN_e h4 (hz79 1 (by decide)) ev82) (sumN_e h5 (gu_t c93) ev101) hf_sm hf_sg hf_sr hf_ss hf_sv hf_sw hf_q2 hFr hP hS ls (lv_sub hl [0, 1, 2] rfl)
  refine W.widen (k := 1) (n := 60 * (1)) (by omega) (by omega) ?_
  exact K47 _ 0 0 0 0 f43 _ _ (Nat.lt_succ_self _) (Nat.zero_le _) (rfl) (rfl) (rfl) hf_sm hf_sg hf_sr hf_ss hf_sv hf_sw hf_q2 hFr hP hS ls (lv_sub hl [0, 1, 2] rfl)
