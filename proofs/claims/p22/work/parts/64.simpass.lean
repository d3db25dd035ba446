/-! ===== the league by hand: a day ===== -/
theorem mapV_ne {F : VV → VV} {vs : Nat → VV} {i j : Nat} (h : j ≠ i) : mapV F vs i j = mapV F vs (i + 1) j := by
  unfold mapV
  by_cases k : j < i
  · rw [if_pos k, if_pos (by omega)]
  · rw [if_neg k, if_neg (by omega)]
theorem mapV_lt {F : VV → VV} {vs : Nat → VV} {i j : Nat} (h : j < i) : mapV F vs i j = F (vs j) := if_pos h
def hitM (sa : Nat → Int32) (rb : Bool) (n : Nat) (V : VV) : Bool := hitB (leadN sa V.2.2.2.2 n) rb
def st1 (sa : Nat → Int32) (rb : Bool) (n : Nat) (V : VV) : VV := (V.1, V.2.1 + b2i (hitM sa rb n V), V.2.2.1, (if hitM sa rb n V then V.2.2.2.1 + 1 else 0), V.2.2.2.2)
def lrnM (sa : Nat → Int32) (rb : Bool) (j : Nat) (w : Int32) : Int32 := if sa j = truth rb then (if w = 100 then 100 else w + 1) else 3 * w / 4
def st2 (sa : Nat → Int32) (rb : Bool) (n : Nat) (V : VV) : VV := setW V (mapN (lrnM sa rb) V.2.2.2.2 n)
def selM (row co : Int32) : Int32 := if row = 0 then (if co ≤ 0 then co - 0 else co - 1) else co + (if row ≤ 5 then row else 5)
def st3 (V : VV) : VV := (V.1, V.2.1, selM V.2.2.2.1 V.2.2.1, V.2.2.2.1, V.2.2.2.2)
theorem b2i_nz {b : Bool} (h : ¬ b2i b = 0) : b = true := by
  cases b
  · exact absurd rfl h
  · rfl
theorem hit_1 {is lead : Int32} {rb : Bool} (hr : is = b2i rb) (h : ¬ lead ≤ 0) (k : ¬ is = 0) : hitB lead rb = true := by
  unfold hitB
  rw [decide_eq_true (Int32.not_le.mp h), b2i_nz (b := rb) (by rw [← hr]; exact k)]
  rfl
theorem hit_2 {is lead : Int32} {rb : Bool} (hr : is = b2i rb) (h : ¬ lead ≤ 0) (k : is = 0) : hitB lead rb = false := by
  unfold hitB
  rw [decide_eq_true (Int32.not_le.mp h), b2i_0.mp (hr.symm.trans k)]
  rfl
theorem hit_3 {is lead : Int32} {rb : Bool} (hr : is = b2i rb) (h : lead ≤ 0) (k : ¬ is = 0) : hitB lead rb = false := by
  unfold hitB
  rw [decide_eq_false (Int32.not_lt.mpr h), b2i_nz (b := rb) (by rw [← hr]; exact k)]
  rfl
theorem hit_4 {is lead : Int32} {rb : Bool} (hr : is = b2i rb) (h : lead ≤ 0) (k : is = 0) : hitB lead rb = true := by
  unfold hitB
  rw [decide_eq_false (Int32.not_lt.mpr h), b2i_0.mp (hr.symm.trans k)]
  rfl
theorem q3 {p : Nat → Prop} (h0 : p 0) (h1 : p 1) (h2 : p 2) : ∀ q, q < 3 → p q := fun q hq => by
  rcases (show q = 0 ∨ q = 1 ∨ q = 2 by omega) with rfl | rfl | rfl
  · exact h0
  · exact h1
  · exact h2
theorem row_hit {sa : Nat → Int32} {rb : Bool} {n i : Nat} {vs : Nat → VV} {z : Nat → Int32} {x y : Int32} (hz : ∀ q, q < 3 → z q = vr3 (mapV (st1 sa rb n) vs i i) q) (hh : hitM sa rb n (vs i) = true) (ex : x = z 0 + 1) (ey : y = upd z 0 x 2 + 1) : ∀ q, q < 3 → upd (upd z 0 x) 2 y q = vr3 (mapV (st1 sa rb n) vs (i + 1) i) q := by
  have e1 := hz 0 (by decide)
  have e2 := hz 1 (by decide)
  have e3 := hz 2 (by decide)
  rw [mapV_at] at e1 e2 e3
  rw [mapV_lt (Nat.lt_succ_self i)]
  refine q3 ?_ ?_ ?_
  · show x = (vs i).2.1 + b2i (hitM sa rb n (vs i))
    rw [ex, hh, e1]; rfl
  · exact e2
  · show y = (if hitM sa rb n (vs i) then (vs i).2.2.2.1 + 1 else 0)
    rw [hh, if_pos rfl, ey]
    show z 2 + 1 = _
    rw [e3]; rfl
theorem row_no {sa : Nat → Int32} {rb : Bool} {n i : Nat} {vs : Nat → VV} {z : Nat → Int32} (hz : ∀ q, q < 3 → z q = vr3 (mapV (st1 sa rb n) vs i i) q) (hh : hitM sa rb n (vs i) = false) : ∀ q, q < 3 → upd z 2 0 q = vr3 (mapV (st1 sa rb n) vs (i + 1) i) q := by
  have e1 := hz 0 (by decide)
  have e2 := hz 1 (by decide)
  rw [mapV_at] at e1 e2
  rw [mapV_lt (Nat.lt_succ_self i)]
  refine q3 ?_ ?_ ?_
  · show z 0 = (vs i).2.1 + b2i (hitM sa rb n (vs i))
    rw [hh, e1]
    exact (Int32.add_zero _).symm
  · exact e2
  · show (0 : Int32) = (if hitM sa rb n (vs i) then (vs i).2.2.2.1 + 1 else 0)
    rw [hh]; rfl
theorem sumN_h {sa : Nat → Int32} {rb : Bool} {n i : Nat} {vs : Nat → VV} {x y : Int32} (h : x = sumN (fun v => b2i (hitM sa rb n (vs v))) i) (hh : hitM sa rb n (vs i) = true) (e : y = x + 1) : y = sumN (fun v => b2i (hitM sa rb n (vs v))) (i + 1) := sumN_e h (show (1 : Int32) = b2i (hitM sa rb n (vs i)) by rw [hh]; rfl) e
theorem sumN_n {sa : Nat → Int32} {rb : Bool} {n i : Nat} {vs : Nat → VV} {x : Int32} (h : x = sumN (fun v => b2i (hitM sa rb n (vs v))) i) (hh : hitM sa rb n (vs i) = false) : x = sumN (fun v => b2i (hitM sa rb n (vs v))) (i + 1) := sumN_z h (by rw [hh]; rfl)
theorem wrow {sa : Nat → Int32} {rb : Bool} {n i k : Nat} {vs : Nat → VV} {z : Nat → Int32} (hz : ∀ q, q < 8 → z q = (mapV (st2 sa rb n) vs i i).2.2.2.2 q) (hk : k = n) : ∀ q, q < 8 → mapN (lrnM sa rb) z k q = (mapV (st2 sa rb n) vs (i + 1) i).2.2.2.2 q := by
  subst hk
  intro q hq
  have e := hz q hq
  rw [mapV_at] at e
  rw [mapV_lt (Nat.lt_succ_self i)]
  show mapN (lrnM sa rb) z k q = mapN (lrnM sa rb) (vs i).2.2.2.2 k q
  unfold mapN
  rw [e]
theorem lr_no {sa : Nat → Int32} {rb b : Bool} {is : Int32} {j : Nat} {w z x y : Int32} (hr : is = b2i rb) (h : ¬ b2i b = is) (hw : w = z) (ex : x = 3 * w) (ey : y = x / 4) (hs : sa j = truth b := by rfl) : y = lrnM sa rb j z := by
  subst hr
  have : ¬ truth b = truth rb := by
    intro e
    apply h
    cases b <;> cases rb <;> first | rfl | exact absurd e (by decide)
  unfold lrnM
  rw [hs, if_neg this, ey, ex, hw]
theorem lr_add {sa : Nat → Int32} {rb b : Bool} {is : Int32} {j : Nat} {w z x : Int32} (hr : is = b2i rb) (h : b2i b = is) (hw : w = z) (hn : ¬ w = 100) (ex : x = w + 1) (hs : sa j = truth b := by rfl) : x = lrnM sa rb j z := by
  subst hr
  have : truth b = truth rb := by
    cases b <;> cases rb <;> first | rfl | exact absurd h (by decide)
  unfold lrnM
  rw [hs, if_pos this, if_neg (by rw [← hw]; exact hn), ex, hw]
theorem lr_top {sa : Nat → Int32} {rb b : Bool} {is : Int32} {j : Nat} {w z : Int32} (hr : is = b2i rb) (h : b2i b = is) (hw : w = z) (hn : w = 100) (hs : sa j = truth b := by rfl) : 100 = lrnM sa rb j z := by
  subst hr
  have : truth b = truth rb := by
    cases b <;> cases rb <;> first | rfl | exact absurd h (by decide)
  unfold lrnM
  rw [hs, if_pos this, if_pos (by rw [← hw]; exact hn)]
theorem co_row {vs : Nat → VV} {i : Nat} {z : Nat → Int32} {x : Int32} (hz : ∀ q, q < 3 → z q = vr3 (mapV st3 vs i i) q) (e : x = selM (z 2) (z 1)) : ∀ q, q < 3 → upd z 1 x q = vr3 (mapV st3 vs (i + 1) i) q := by
  have e1 := hz 0 (by decide)
  have e2 := hz 1 (by decide)
  have e3 := hz 2 (by decide)
  rw [mapV_at] at e1 e2 e3
  rw [mapV_lt (Nat.lt_succ_self i)]
  refine q3 ?_ ?_ ?_
  · exact e1
  · show x = selM (vs i).2.2.2.1 (vs i).2.2.1
    rw [e, e2, e3]; rfl
  · exact e3
theorem co_0 {vs : Nat → VV} {i : Nat} {z : Nat → Int32} {x : Int32} (hz : ∀ q, q < 3 → z q = vr3 (mapV st3 vs i i) q) (h : z 2 = 0) (k : z 1 ≤ 0) (e : x = z 1 - 0) : ∀ q, q < 3 → upd z 1 x q = vr3 (mapV st3 vs (i + 1) i) q := co_row hz (by unfold selM; rw [if_pos h, if_pos k]; exact e)
theorem co_1 {vs : Nat → VV} {i : Nat} {z : Nat → Int32} {x : Int32} (hz : ∀ q, q < 3 → z q = vr3 (mapV st3 vs i i) q) (h : z 2 = 0) (k : ¬ z 1 ≤ 0) (e : x = z 1 - 1) : ∀ q, q < 3 → upd z 1 x q = vr3 (mapV st3 vs (i + 1) i) q := co_row hz (by unfold selM; rw [if_pos h, if_neg k]; exact e)
theorem co_r {vs : Nat → VV} {i : Nat} {z : Nat → Int32} {x : Int32} (hz : ∀ q, q < 3 → z q = vr3 (mapV st3 vs i i) q) (h : ¬ z 2 = 0) (k : z 2 ≤ 5) (e : x = z 1 + z 2) : ∀ q, q < 3 → upd z 1 x q = vr3 (mapV st3 vs (i + 1) i) q := co_row hz (by unfold selM; rw [if_neg h, if_pos k]; exact e)
theorem co_5 {vs : Nat → VV} {i : Nat} {z : Nat → Int32} {x : Int32} (hz : ∀ q, q < 3 → z q = vr3 (mapV st3 vs i i) q) (h : ¬ z 2 = 0) (k : ¬ z 2 ≤ 5) (e : x = z 1 + 5) : ∀ q, q < 3 → upd z 1 x q = vr3 (mapV st3 vs (i + 1) i) q := co_row hz (by unfold selM; rw [if_neg h, if_neg k]; exact e)
set_option maxHeartbeats 4000000 in
set_option maxRecDepth 100000 in
theorem m_X5_pass (l : Launch) (g : GG) (L : List Nat) (f : Nat → va_E) (sz : Nat) (hN : L.Nodup) (sm sg sr ss sv sw d0 n nv : Nat) (fs fv fw : Nat → Nat) (gl rn kd nu : Nat → Int32) (vs : Nat → VV) (hL_sm : sm ∈ L) (hf_sm : f sm = eO 6 [.int (nI d0), .ref sg, .ref sr, .ref ss, .ref sv, .ref sw]) (hL_sg : sg ∈ L) (hf_sg : f sg = eI g 12 gl) (hL_sr : sr ∈ L) (hf_sr : f sr = eZ g 12 rn) (hL_ss : ss ∈ L) (hf_ss : f ss = eR g n (vilR fs n)) (hL_sv : sv ∈ L) (hf_sv : f sv = eR g nv (vilR fv nv)) (hL_sw : sw ∈ L) (hf_sw : f sw = eR g nv (vilR fw nv)) (hn : n ≤ 8) (hnv : nv ≤ 6) (hrn : ∀ k, k < 12 → ∃ b, rn k = b2i b) (hnu : ∀ j, j < n → ∃ m : Nat, m ≤ 60 ∧ nu j = nI m) (hgl : ∀ k, k < 12 → ∃ m : Nat, m ≤ 60 ∧ gl k = nI m) (hSR : RowsB g L f 2 n fs (fun j => pr2 (kd j) (nu j))) (hVR : RowsB g L f 3 nv fv (fun v => vr3 (vs v))) (hWR : RowsB g L f 8 nv fw (fun v => (vs v).2.2.2.2)) (hIv : Inj nv fv) (hIw : Inj nv fw) (hd : d0 < 2 ^ 30) : RW l g yX5_pass wsX5_pass 2 49 L f sz [.ref sm] (fun r f2 => r = sumN (fun v => b2i (hitM (fun j => truth (sayB (kd j) (nu j) gl rn d0)) (rbB rn d0) n (vs v))) nv ∧ f2 sm = eS (d0 + 1) sg sr ss sv sw ∧ f2 sg = eI g 12 gl ∧ f2 sr = eZ g 12 rn ∧ f2 ss = eR g n (vilR fs n) ∧ f2 sv = eR g nv (vilR fv nv) ∧ f2 sw = eR g nv (vilR fw nv) ∧ RowsB g L f2 2 n fs (fun j => pr2 (kd j) (nu j)) ∧ RowsB g L f2 3 nv fv (fun v => vr3 (mapV st3 (mapV (st1 (fun j => truth (sayB (kd j) (nu j) gl rn d0)) (rbB rn d0) n) vs nv) nv v)) ∧ RowsB g L f2 8 nv fw (fun v => (mapV (st2 (fun j => truth (sayB (kd j) (nu j) gl rn d0)) (rbB rn d0) n) vs nv v).2.2.2.2)) := by
  refine RW.start (cc := cX5_pass) (maxL := 8) (ret := .int) (by decide +kernel) rfl (by simp [lg_sl, Value.category]) ?_
  intro p e s m args below meth c Q ls A hx hb hml hts hown hA hA2 hS hP hK hl hend
  have hl : lv_has ls 8 [(0, .ref sm)] := hl
  have hi_X5 : ∀ w ∈ u_ws RX5 TX5 6, w ∈ wsX5_pass := by decide +kernel
  have hFr : (fun _ : Nat → va_E => True) f := trivial
  have n_sm_sg : sm ≠ sg := ne_e hf_sm hf_sg (by simp)
  have n_sm_sr : sm ≠ sr := ne_e hf_sm hf_sr (by simp)
  have n_sm_ss : sm ≠ ss := ne_e hf_sm hf_ss (by simp)
  have n_sm_sv : sm ≠ sv := ne_e hf_sm hf_sv (by simp)
  have n_sm_sw : sm ≠ sw := ne_e hf_sm hf_sw (by simp)
  have n_sg_ss : sg ≠ ss := ne_e hf_sg hf_ss (by simp)
  have n_sg_sv : sg ≠ sv := ne_e hf_sg hf_sv (by simp)
  have n_sg_sw : sg ≠ sw := ne_e hf_sg hf_sw (by simp)
  have n_sr_ss : sr ≠ ss := ne_e hf_sr hf_ss (by simp)
  have n_sr_sv : sr ≠ sv := ne_e hf_sr hf_sv (by simp)
  have n_sr_sw : sr ≠ sw := ne_e hf_sr hf_sw (by simp)
  have h0f_sm := hf_sm
  have h0f_sg := hf_sg
  have h0f_sr := hf_sr
  have h0f_ss := hf_ss
  have h0f_sv := hf_sv
  have h0f_sw := hf_sw
  have hrb : rn (d0 % 12) = b2i (rbB rn d0) := rb_eq (hrn _ (by omega))
  refine lv_aload_n hx hb dX5_pass_0 rfl (lv_at hl 0 rfl) ?_
  refine pg_get (C := RX5) (T := TX5) (N := 6) hx hb hts hi_X5 hown hK hP hL_sm hf_sm rfl 2 (by decide) (hts (.fieldLink RX5 13 "BarometerLeagueLaw$Sim" "rain" "[Z") (by decide +kernel)) (fun _ h9 => h9) rfl dX5_pass_1 ?_
  refine lv_aload_n hx hb dX5_pass_4 rfl (lv_at hl 0 rfl) ?_
  refine pg_get (C := RX5) (T := TX5) (N := 6) hx hb hts hi_X5 hown hK hP hL_sm hf_sm rfl 0 (by decide) (hts (.fieldLink RX5 28 "BarometerLeagueLaw$Sim" "day" "I") (by decide +kernel)) (fun _ h9 => h9) rfl dX5_pass_5 ?_
  refine lv_bipush (v := 12) hx hb dX5_pass_8 (by decide) ?_
  refine lv_irem hx hb dX5_pass_10 (by decide) ?_
  refine lv_topi (fun v10 ev10 => ?_)
  refine pn_zald (j := d0 % 12) hx hb hK hP hL_sr hf_sr (ev10.trans (pk_rem (a := d0) (d := 12) (by omega) (by decide) (by decide))) (by omega) (Nat.lt_of_lt_of_le (m := 100) (by omega) (by omega)) dX5_pass_11 ?_
  refine lv_istore_n (lv' := [(1, .int (rn (d0 % 12))), (0, .ref sm)]) hx hb dX5_pass_12 rfl hl (by decide) rfl (fun ls hl => ?_)
  refine lv_iconst (v := 0) hx hb dX5_pass_13 (by decide) ?_
  refine lv_istore_n (lv' := [(2, .int 0), (1, .int (rn (d0 % 12))), (0, .ref sm)]) hx hb dX5_pass_14 rfl hl (by decide) rfl (fun ls hl => ?_)
  refine lv_iconst (v := 0) hx hb dX5_pass_15 (by decide) ?_
  refine lv_istore_n (lv' := [(3, .int 0), (2, .int 0), (1, .int (rn (d0 % 12))), (0, .ref sm)]) hx hb dX5_pass_16 rfl hl (by decide) rfl (fun ls hl => ?_)
  have K17 : ∀ (n17 : Nat) (i : Nat) (acc : Int32) (f17 : Nat → va_E) (H : Heap) (locs : List Loc), nv - i < n17 → i ≤ nv → acc = sumN (fun v => b2i (hitM (fun j => truth (sayB (kd j) (nu j) gl rn d0)) (rbB rn d0) n (vs v))) i → RowsB g L f17 2 n fs (fun j => pr2 (kd j) (nu j)) → RowsB g L f17 3 nv fv (fun v => vr3 (mapV (st1 (fun j => truth (sayB (kd j) (nu j) gl rn d0)) (rbB rn d0) n) vs i v)) → RowsB g L f17 8 nv fw (fun v => (vs v).2.2.2.2) → f17 sm = eO 6 [.int (nI d0), .ref sg, .ref sr, .ref ss, .ref sv, .ref sw] → f17 sg = eI g 12 gl → f17 sr = eZ g 12 rn → f17 ss = eR g n (vilR fs n) → f17 sv = eR g nv (vilR fv nv) → f17 sw = eR g nv (vilR fw nv) → (fun _ : Nat → va_E => True) f17 → PP g L f17 H → va_S A s.heap H locs → ∀ (ls : Array Slot), lv_has ls 8 [(3, .int (nI i)), (2, .int acc), (1, .int (rn (d0 % 12))), (0, .ref sm)] → W p l e ({ frames := 2, cells := 0, slots := 0, locals := 49 } : Room) s m args below meth c H locs 0 0 Q (F0 m 17 ls []) := by
    intro n17
    induction n17 with
    | zero => intros; omega
    | succ n17 ih17 =>
      intro i acc f17 H locs hm17 hi ha hSR hVR hWR hq17_0 hq17_1 hq17_2 hq17_3 hq17_4 hq17_5 hFr hP hS ls hl
      have hf_sm : f17 sm = eO 6 [.int (nI d0), .ref sg, .ref sr, .ref ss, .ref sv, .ref sw] := hq17_0
      have hf_sg : f17 sg = eI g 12 gl := hq17_1
      have hf_sr : f17 sr = eZ g 12 rn := hq17_2
      have hf_ss : f17 ss = eR g n (vilR fs n) := hq17_3
      have hf_sv : f17 sv = eR g nv (vilR fv nv) := hq17_4
      have hf_sw : f17 sw = eR g nv (vilR fw nv) := hq17_5
      refine lv_iload_n hx hb dX5_pass_17 rfl (lv_at hl 0 rfl) ?_
      refine lv_aload_n hx hb dX5_pass_18 rfl (lv_at hl 3 rfl) ?_
      refine pg_get (C := RX5) (T := TX5) (N := 6) hx hb hts hi_X5 hown hK hP hL_sm hf_sm rfl 4 (by decide) (hts (.fieldLink RX5 22 "BarometerLeagueLaw$Sim" "villages" "[[I") (by decide +kernel)) (fun _ h9 => h9) rfl dX5_pass_19 ?_
      refine pg_alen hx hb hK hP hL_sv hf_sv 4 rfl (v := nI nv) rfl dX5_pass_22 ?_
      refine lv_icmp_ge (tgt := 86) hx hb dX5_pass_23 (by decide) (fun c23 => ?_) (fun c23 => ?_)
      · skip
        have c23 : nv ≤ i := (nI_leI (a := nv) (b := i) (by omega) (by omega)).mp (show nI nv ≤ nI i from c23)
        refine lv_aload_n hx hb dX5_pass_86 rfl (lv_at hl 3 rfl) ?_
        refine pg_get (C := RX5) (T := TX5) (N := 6) hx hb hts hi_X5 hown hK hP hL_sm hf_sm rfl 5 (by decide) (hts (.fieldLink RX5 25 "BarometerLeagueLaw$Sim" "weights" "[[I") (by decide +kernel)) (fun _ h9 => h9) rfl dX5_pass_87 ?_
        refine lv_astore_n (lv' := [(3, .ref sw), (2, .int acc), (1, .int (rn (d0 % 12))), (0, .ref sm)]) hx hb dX5_pass_90 rfl hl (by decide) rfl (fun ls hl => ?_)
        refine lv_aload_n hx hb dX5_pass_91 rfl (lv_at hl 0 rfl) ?_
        refine pg_alen hx hb hK hP hL_sw hf_sw 4 rfl (v := nI nv) rfl dX5_pass_92 ?_
        refine lv_istore (lv' := [(4, .int (nI nv)), (3, .ref sw), (2, .int acc), (1, .int (rn (d0 % 12))), (0, .ref sm)]) hx hb dX5_pass_93 hl (by decide) rfl (fun ls hl => ?_)
        refine lv_iconst (v := 0) hx hb dX5_pass_95 (by decide) ?_
        refine lv_istore (lv' := [(5, .int 0), (4, .int (nI nv)), (3, .ref sw), (2, .int acc), (1, .int (rn (d0 % 12))), (0, .ref sm)]) hx hb dX5_pass_96 hl (by decide) rfl (fun ls hl => ?_)
        have K98 : ∀ (n98 : Nat) (i2 : Nat) (f98 : Nat → va_E) (H : Heap) (locs : List Loc), nv - i2 < n98 → i2 ≤ nv → RowsB g L f98 2 n fs (fun j => pr2 (kd j) (nu j)) → RowsB g L f98 3 nv fv (fun v => vr3 (mapV (st1 (fun j => truth (sayB (kd j) (nu j) gl rn d0)) (rbB rn d0) n) vs nv v)) → RowsB g L f98 8 nv fw (fun v => (mapV (st2 (fun j => truth (sayB (kd j) (nu j) gl rn d0)) (rbB rn d0) n) vs i2 v).2.2.2.2) → f98 sm = eO 6 [.int (nI d0), .ref sg, .ref sr, .ref ss, .ref sv, .ref sw] → f98 sg = eI g 12 gl → f98 sr = eZ g 12 rn → f98 ss = eR g n (vilR fs n) → f98 sv = eR g nv (vilR fv nv) → f98 sw = eR g nv (vilR fw nv) → (fun _ : Nat → va_E => True) f98 → PP g L f98 H → va_S A s.heap H locs → ∀ (ls : Array Slot), lv_has ls 8 [(5, .int (nI i2)), (4, .int (nI nv)), (3, .ref sw), (2, .int acc), (1, .int (rn (d0 % 12))), (0, .ref sm)] → W p l e ({ frames := 2, cells := 0, slots := 0, locals := 49 } : Room) s m args below meth c H locs 0 0 Q (F0 m 98 ls []) := by
          intro n98
          induction n98 with
          | zero => intros; omega
          | succ n98 ih98 =>
            intro i2 f98 H locs hm98 hi2 hSR hVR hWR hq98_0 hq98_1 hq98_2 hq98_3 hq98_4 hq98_5 hFr hP hS ls hl
            have hf_sm : f98 sm = eO 6 [.int (nI d0), .ref sg, .ref sr, .ref ss, .ref sv, .ref sw] := hq98_0
            have hf_sg : f98 sg = eI g 12 gl := hq98_1
            have hf_sr : f98 sr = eZ g 12 rn := hq98_2
            have hf_ss : f98 ss = eR g n (vilR fs n) := hq98_3
            have hf_sv : f98 sv = eR g nv (vilR fv nv) := hq98_4
            have hf_sw : f98 sw = eR g nv (vilR fw nv) := hq98_5
            refine lv_iload hx hb dX5_pass_98 (lv_at hl 0 rfl) ?_
            refine lv_iload hx hb dX5_pass_100 (lv_at hl 1 rfl) ?_
            refine lv_icmp_ge (tgt := 194) hx hb dX5_pass_102 (by decide) (fun c102 => ?_) (fun c102 => ?_)
            · skip
              have c102 : nv ≤ i2 := (nI_leI (a := nv) (b := i2) (by omega) (by omega)).mp (show nI nv ≤ nI i2 from c102)
              refine lv_aload_n hx hb dX5_pass_194 rfl (lv_at hl 5 rfl) ?_
              refine pg_get (C := RX5) (T := TX5) (N := 6) hx hb hts hi_X5 hown hK hP hL_sm hf_sm rfl 4 (by decide) (hts (.fieldLink RX5 22 "BarometerLeagueLaw$Sim" "villages" "[[I") (by decide +kernel)) (fun _ h9 => h9) rfl dX5_pass_195 ?_
              refine lv_astore_n (lv' := [(3, .ref sv), (5, .int (nI i2)), (4, .int (nI nv)), (2, .int acc), (1, .int (rn (d0 % 12))), (0, .ref sm)]) hx hb dX5_pass_198 rfl hl (by decide) rfl (fun ls hl => ?_)
              refine lv_aload_n hx hb dX5_pass_199 rfl (lv_at hl 0 rfl) ?_
              refine pg_alen hx hb hK hP hL_sv hf_sv 4 rfl (v := nI nv) rfl dX5_pass_200 ?_
              refine lv_istore (lv' := [(4, .int (nI nv)), (3, .ref sv), (5, .int (nI i2)), (2, .int acc), (1, .int (rn (d0 % 12))), (0, .ref sm)]) hx hb dX5_pass_201 hl (by decide) rfl (fun ls hl => ?_)
              refine lv_iconst (v := 0) hx hb dX5_pass_203 (by decide) ?_
              refine lv_istore (lv' := [(5, .int 0), (4, .int (nI nv)), (3, .ref sv), (2, .int acc), (1, .int (rn (d0 % 12))), (0, .ref sm)]) hx hb dX5_pass_204 hl (by decide) rfl (fun ls hl => ?_)
              have K206 : ∀ (n206 : Nat) (i4 : Nat) (f206 : Nat → va_E) (H : Heap) (locs : List Loc), nv - i4 < n206 → i4 ≤ nv → RowsB g L f206 2 n fs (fun j => pr2 (kd j) (nu j)) → RowsB g L f206 3 nv fv (fun v => vr3 (mapV st3 (mapV (st1 (fun j => truth (sayB (kd j) (nu j) gl rn d0)) (rbB rn d0) n) vs nv) i4 v)) → RowsB g L f206 8 nv fw (fun v => (mapV (st2 (fun j => truth (sayB (kd j) (nu j) gl rn d0)) (rbB rn d0) n) vs nv v).2.2.2.2) → f206 sm = eO 6 [.int (nI d0), .ref sg, .ref sr, .ref ss, .ref sv, .ref sw] → f206 sg = eI g 12 gl → f206 sr = eZ g 12 rn → f206 ss = eR g n (vilR fs n) → f206 sv = eR g nv (vilR fv nv) → f206 sw = eR g nv (vilR fw nv) → (fun _ : Nat → va_E => True) f206 → PP g L f206 H → va_S A s.heap H locs → ∀ (ls : Array Slot), lv_has ls 8 [(5, .int (nI i4)), (4, .int (nI nv)), (3, .ref sv), (2, .int acc), (1, .int (rn (d0 % 12))), (0, .ref sm)] → W p l e ({ frames := 2, cells := 0, slots := 0, locals := 49 } : Room) s m args below meth c H locs 0 0 Q (F0 m 206 ls []) := by
                intro n206
                induction n206 with
                | zero => intros; omega
                | succ n206 ih206 =>
                  intro i4 f206 H locs hm206 hi4 hSR hVR hWR hq206_0 hq206_1 hq206_2 hq206_3 hq206_4 hq206_5 hFr hP hS ls hl
                  have hf_sm : f206 sm = eO 6 [.int (nI d0), .ref sg, .ref sr, .ref ss, .ref sv, .ref sw] := hq206_0
                  have hf_sg : f206 sg = eI g 12 gl := hq206_1
                  have hf_sr : f206 sr = eZ g 12 rn := hq206_2
                  have hf_ss : f206 ss = eR g n (vilR fs n) := hq206_3
                  have hf_sv : f206 sv = eR g nv (vilR fv nv) := hq206_4
                  have hf_sw : f206 sw = eR g nv (vilR fw nv) := hq206_5
                  refine lv_iload hx hb dX5_pass_206 (lv_at hl 0 rfl) ?_
                  refine lv_iload hx hb dX5_pass_208 (lv_at hl 1 rfl) ?_
                  refine lv_icmp_ge (tgt := 277) hx hb dX5_pass_210 (by decide) (fun c210 => ?_) (fun c210 => ?_)
                  · skip
                    have c210 : nv ≤ i4 := (nI_leI (a := nv) (b := i4) (by omega) (by omega)).mp (show nI nv ≤ nI i4 from c210)
                    have hb9 := hf_sm
                    refine lv_aload_n hx hb dX5_pass_277 rfl (lv_at hl 5 rfl) ?_
                    refine lv_dup hx hb dX5_pass_278 rfl ?_
                    refine pg_get (C := RX5) (T := TX5) (N := 6) hx hb hts hi_X5 hown hK hP hL_sm hf_sm rfl 0 (by decide) (hts (.fieldLink RX5 28 "BarometerLeagueLaw$Sim" "day" "I") (by decide +kernel)) (fun _ h9 => h9) rfl dX5_pass_279 ?_
                    refine lv_iconst (v := 1) hx hb dX5_pass_282 (by decide) ?_
                    refine lv_iadd hx hb dX5_pass_283 ?_
                    refine lv_topi (fun v283 ev283 => ?_)
                    refine pg_put (ty := .int) (C := RX5) (T := TX5) (N := 6) hx hb hts hi_X5 tyX5 tyX5_ok nmX5 hown hK hP hN hA hS hL_sm hf_sm rfl 0 (by decide) (hts (.fieldLink RX5 28 "BarometerLeagueLaw$Sim" "day" "I") (by decide +kernel)) (fun _ h9 => h9) rfl (by decide +kernel) rfl rfl (Nat.le_of_ble_eq_true rfl) dX5_pass_284 (fun H locs hP hS => ?_)
                    obtain ⟨f284, ef284⟩ : ∃ z, z = va_up f206 sm (eO 6 [.int v283, .ref sg, .ref sr, .ref ss, .ref sv, .ref sw]) := ⟨_, rfl⟩
                    replace hP : PP g L f284 H := by rw [ef284]; exact hP
                    have hFo := (show Fr f206 f284 [sm] by rw [ef284]; exact Fr.rf.up (by simp))
                    have hf_sg : f284 sg = eI g 12 gl := by rw [ef284, va_up_ne _ _ n_sm_sg.symm]; exact hf_sg
                    have hf_sr : f284 sr = eZ g 12 rn := by rw [ef284, va_up_ne _ _ n_sm_sr.symm]; exact hf_sr
                    have hf_ss : f284 ss = eR g n (vilR fs n) := by rw [ef284, va_up_ne _ _ n_sm_ss.symm]; exact hf_ss
                    have hf_sv : f284 sv = eR g nv (vilR fv nv) := by rw [ef284, va_up_ne _ _ n_sm_sv.symm]; exact hf_sv
                    have hf_sw : f284 sw = eR g nv (vilR fw nv) := by rw [ef284, va_up_ne _ _ n_sm_sw.symm]; exact hf_sw
                    have hf_sm : f284 sm = eO 6 [.int v283, .ref sg, .ref sr, .ref ss, .ref sv, .ref sw] := by rw [ef284]; exact va_up_self _ _ _
                    replace hFr : (fun _ : Nat → va_E => True) f284 := by rw [ef284]; exact trivial
                    refine lv_iload_n hx hb dX5_pass_287 rfl (lv_at hl 3 rfl) ?_
                    exact hend (acc) f284 _ _ _ _ (⟨by rw [ha, show i = nv from (by omega)], by rw [hf_sm, ev283]; exact congrArg (fun z => eO 6 [.int z, .ref sg, .ref sr, .ref ss, .ref sv, .ref sw]) (nI_1 d0), hf_sg, hf_sr, hf_ss, hf_sv, hf_sw, hSR.fr hFo (fun z => by rw [hb9]; simp), (hVR.fr hFo (fun z => by rw [hb9]; simp)).cg (fun j _ q _ => by rw [show i4 = nv from (by omega)]), hWR.fr hFo (fun z => by rw [hb9]; simp)⟩) hP hS rfl dX5_pass_288
                  · skip
                    have c210 : ¬ nv ≤ i4 := fun h => c210 ((nI_leI (a := nv) (b := i4) (by omega) (by omega)).mpr h)
                    refine lv_aload_n hx hb dX5_pass_213 rfl (lv_at hl 2 rfl) ?_
                    refine lv_iload hx hb dX5_pass_214 (lv_at hl 0 rfl) ?_
                    refine pn_rald (j := i4) hx hb hK hP hL_sv hf_sv rfl (by omega) (Nat.lt_of_lt_of_le (m := 100) (by omega) (by omega)) (vilR_at (by omega)) dX5_pass_216 ?_
                    obtain ⟨hL_fv_i4, z216, hf_fv_i4, hz216⟩ := hVR i4 (by omega)
                    have hb0 := hf_fv_i4
                    have hFi : Fr f206 f206 [fv i4] := Fr.rf
                    refine lv_astore (lv' := [(6, .ref (fv i4)), (5, .int (nI i4)), (4, .int (nI nv)), (3, .ref sv), (2, .int acc), (1, .int (rn (d0 % 12))), (0, .ref sm)]) hx hb dX5_pass_217 hl (by decide) rfl (fun ls hl => ?_)
                    refine lv_aload hx hb dX5_pass_219 (lv_at hl 0 rfl) ?_
                    refine lv_iconst (v := 2) hx hb dX5_pass_221 (by decide) ?_
                    refine pn_iald (j := 2) hx hb hK hP hL_fv_i4 hf_fv_i4 rfl (by omega) (Nat.lt_of_lt_of_le (m := 100) (by omega) (by omega)) dX5_pass_222 ?_
                    refine lv_if_ne (tgt := 248) hx hb dX5_pass_223 (by decide) (fun c223 => ?_) (fun c223 => ?_)
                    · skip
                      refine lv_aload hx hb dX5_pass_248 (lv_at hl 0 rfl) ?_
                      refine lv_iconst (v := 1) hx hb dX5_pass_250 (by decide) ?_
                      refine lv_dup2_11 hx hb dX5_pass_251 rfl rfl ?_
                      refine pn_iald (j := 1) hx hb hK hP hL_fv_i4 hf_fv_i4 rfl (by omega) (Nat.lt_of_lt_of_le (m := 100) (by omega) (by omega)) dX5_pass_252 ?_
                      refine lv_aload hx hb dX5_pass_253 (lv_at hl 0 rfl) ?_
                      refine lv_iconst (v := 2) hx hb dX5_pass_255 (by decide) ?_
                      refine pn_iald (j := 2) hx hb hK hP hL_fv_i4 hf_fv_i4 rfl (by omega) (Nat.lt_of_lt_of_le (m := 100) (by omega) (by omega)) dX5_pass_256 ?_
                      refine lv_iconst (v := 5) hx hb dX5_pass_257 (by decide) ?_
                      refine lv_icmp_le (tgt := 265) hx hb dX5_pass_258 (by decide) (fun c258 => ?_) (fun c258 => ?_)
                      · skip
                        refine lv_aload hx hb dX5_pass_265 (lv_at hl 0 rfl) ?_
                        refine lv_iconst (v := 2) hx hb dX5_pass_267 (by decide) ?_
                        refine pn_iald (j := 2) hx hb hK hP hL_fv_i4 hf_fv_i4 rfl (by omega) (Nat.lt_of_lt_of_le (m := 100) (by omega) (by omega)) dX5_pass_268 ?_
                        refine lv_iadd hx hb dX5_pass_269 ?_
                        refine lv_topi (fun v269 ev269 => ?_)
                        refine pn_iast (j := 1) hx hb hK hP hN hA hS hL_fv_i4 hf_fv_i4 rfl (by omega) (Nat.lt_of_lt_of_le (m := 100) (by omega) (by omega)) dX5_pass_270 (fun H locs hP hS => ?_)
                        obtain ⟨f270, ef270⟩ : ∃ z, z = va_up f206 (fv i4) (eI g 3 (upd z216 1 v269)) := ⟨_, rfl⟩
                        replace hP : PP g L f270 H := by rw [ef270]; exact hP
                        replace hFi : Fr f206 f270 [fv i4] := hFi.tr (show Fr f206 f270 [fv i4] by rw [ef270]; exact Fr.rf.up (by simp)) (by simp)
                        have hf_sm : f270 sm = eO 6 [.int (nI d0), .ref sg, .ref sr, .ref ss, .ref sv, .ref sw] := by rw [ef270, va_up_ne _ _ (ne_e hf_sm hf_fv_i4 (by simp))]; exact hf_sm
                        have hf_sg : f270 sg = eI g 12 gl := by rw [ef270, va_up_ne _ _ (ne_e hf_sg hf_fv_i4 (by simp))]; exact hf_sg
                        have hf_sr : f270 sr = eZ g 12 rn := by rw [ef270, va_up_ne _ _ (ne_e hf_sr hf_fv_i4 (by simp))]; exact hf_sr
                        have hf_ss : f270 ss = eR g n (vilR fs n) := by rw [ef270, va_up_ne _ _ (ne_e hf_ss hf_fv_i4 (by simp))]; exact hf_ss
                        have hf_sv : f270 sv = eR g nv (vilR fv nv) := by rw [ef270, va_up_ne _ _ (ne_e hf_sv hf_fv_i4 (by simp))]; exact hf_sv
                        have hf_sw : f270 sw = eR g nv (vilR fw nv) := by rw [ef270, va_up_ne _ _ (ne_e hf_sw hf_fv_i4 (by simp))]; exact hf_sw
                        have hf_fv_i4 : f270 (fv i4) = eI g 3 (upd z216 1 v269) := by rw [ef270]; exact va_up_self _ _ _
                        replace hFr : (fun _ : Nat → va_E => True) f270 := by rw [ef270]; exact trivial
                        refine lv_iinc (v := nI (i4 + 1)) (lv' := [(5, .int (nI (i4 + 1))), (6, .ref (fv i4)), (4, .int (nI nv)), (3, .ref sv), (2, .int acc), (1, .int (rn (d0 % 12))), (0, .ref sm)]) hx hb dX5_pass_271 hl (k := 1) rfl (nI_1 _) (by decide) rfl (fun ls hl => ?_)
                        refine lv_goto (tgt := 206) hx hb dX5_pass_274 (by decide) ?_
                        exact ih206 (i4 + 1) f270 H locs (by omega) (by omega) (hSR.fr hFi (fun z => by rw [hb0]; simp)) (hVR.set hIv (by omega) hFi hf_fv_i4 (co_r hz216 c223 c258 ev269) (fun j _ hne q _ => by rw [mapV_ne hne])) (hWR.fr hFi (fun z => by rw [hb0]; simp)) hf_sm hf_sg hf_sr hf_ss hf_sv hf_sw hFr hP hS ls (lv_sub hl [0, 2, 3, 4, 5, 6] rfl)
                      · skip
                        refine lv_iconst (v := 5) hx hb dX5_pass_261 (by decide) ?_
                        refine lv_goto (tgt := 269) hx hb dX5_pass_262 (by decide) ?_
                        refine lv_iadd hx hb dX5_pass_269 ?_
                        refine lv_topi (fun v269 ev269 => ?_)
                        refine pn_iast (j := 1) hx hb hK hP hN hA hS hL_fv_i4 hf_fv_i4 rfl (by omega) (Nat.lt_of_lt_of_le (m := 100) (by omega) (by omega)) dX5_pass_270 (fun H locs hP hS => ?_)
                        obtain ⟨f270, ef270⟩ : ∃ z, z = va_up f206 (fv i4) (eI g 3 (upd z216 1 v269)) := ⟨_, rfl⟩
                        replace hP : PP g L f270 H := by rw [ef270]; exact hP
                        replace hFi : Fr f206 f270 [fv i4] := hFi.tr (show Fr f206 f270 [fv i4] by rw [ef270]; exact Fr.rf.up (by simp)) (by simp)
                        have hf_sm : f270 sm = eO 6 [.int (nI d0), .ref sg, .ref sr, .ref ss, .ref sv, .ref sw] := by rw [ef270, va_up_ne _ _ (ne_e hf_sm hf_fv_i4 (by simp))]; exact hf_sm
                        have hf_sg : f270 sg = eI g 12 gl := by rw [ef270, va_up_ne _ _ (ne_e hf_sg hf_fv_i4 (by simp))]; exact hf_sg
                        have hf_sr : f270 sr = eZ g 12 rn := by rw [ef270, va_up_ne _ _ (ne_e hf_sr hf_fv_i4 (by simp))]; exact hf_sr
                        have hf_ss : f270 ss = eR g n (vilR fs n) := by rw [ef270, va_up_ne _ _ (ne_e hf_ss hf_fv_i4 (by simp))]; exact hf_ss
                        have hf_sv : f270 sv = eR g nv (vilR fv nv) := by rw [ef270, va_up_ne _ _ (ne_e hf_sv hf_fv_i4 (by simp))]; exact hf_sv
                        have hf_sw : f270 sw = eR g nv (vilR fw nv) := by rw [ef270, va_up_ne _ _ (ne_e hf_sw hf_fv_i4 (by simp))]; exact hf_sw
                        have hf_fv_i4 : f270 (fv i4) = eI g 3 (upd z216 1 v269) := by rw [ef270]; exact va_up_self _ _ _
                        replace hFr : (fun _ : Nat → va_E => True) f270 := by rw [ef270]; exact trivial
                        refine lv_iinc (v := nI (i4 + 1)) (lv' := [(5, .int (nI (i4 + 1))), (6, .ref (fv i4)), (4, .int (nI nv)), (3, .ref sv), (2, .int acc), (1, .int (rn (d0 % 12))), (0, .ref sm)]) hx hb dX5_pass_271 hl (k := 1) rfl (nI_1 _) (by decide) rfl (fun ls hl => ?_)
                        refine lv_goto (tgt := 206) hx hb dX5_pass_274 (by decide) ?_
                        exact ih206 (i4 + 1) f270 H locs (by omega) (by omega) (hSR.fr hFi (fun z => by rw [hb0]; simp)) (hVR.set hIv (by omega) hFi hf_fv_i4 (co_5 hz216 c223 c258 ev269) (fun j _ hne q _ => by rw [mapV_ne hne])) (hWR.fr hFi (fun z => by rw [hb0]; simp)) hf_sm hf_sg hf_sr hf_ss hf_sv hf_sw hFr hP hS ls (lv_sub hl [0, 2, 3, 4, 5, 6] rfl)
                    · skip
                      refine lv_aload hx hb dX5_pass_226 (lv_at hl 0 rfl) ?_
                      refine lv_iconst (v := 1) hx hb dX5_pass_228 (by decide) ?_
                      refine lv_dup2_11 hx hb dX5_pass_229 rfl rfl ?_
                      refine pn_iald (j := 1) hx hb hK hP hL_fv_i4 hf_fv_i4 rfl (by omega) (Nat.lt_of_lt_of_le (m := 100) (by omega) (by omega)) dX5_pass_230 ?_
                      refine lv_aload hx hb dX5_pass_231 (lv_at hl 0 rfl) ?_
                      refine lv_iconst (v := 1) hx hb dX5_pass_233 (by decide) ?_
                      refine pn_iald (j := 1) hx hb hK hP hL_fv_i4 hf_fv_i4 rfl (by omega) (Nat.lt_of_lt_of_le (m := 100) (by omega) (by omega)) dX5_pass_234 ?_
                      refine lv_if_le (tgt := 242) hx hb dX5_pass_235 (by decide) (fun c235 => ?_) (fun c235 => ?_)
                      · skip
                        refine lv_iconst (v := 0) hx hb dX5_pass_242 (by decide) ?_
                        refine lv_isub hx hb dX5_pass_243 ?_
                        refine lv_topi (fun v243 ev243 => ?_)
                        refine pn_iast (j := 1) hx hb hK hP hN hA hS hL_fv_i4 hf_fv_i4 rfl (by omega) (Nat.lt_of_lt_of_le (m := 100) (by omega) (by omega)) dX5_pass_244 (fun H locs hP hS => ?_)
                        obtain ⟨f244, ef244⟩ : ∃ z, z = va_up f206 (fv i4) (eI g 3 (upd z216 1 v243)) := ⟨_, rfl⟩
                        replace hP : PP g L f244 H := by rw [ef244]; exact hP
                        replace hFi : Fr f206 f244 [fv i4] := hFi.tr (show Fr f206 f244 [fv i4] by rw [ef244]; exact Fr.rf.up (by simp)) (by simp)
                        have hf_sm : f244 sm = eO 6 [.int (nI d0), .ref sg, .ref sr, .ref ss, .ref sv, .ref sw] := by rw [ef244, va_up_ne _ _ (ne_e hf_sm hf_fv_i4 (by simp))]; exact hf_sm
                        have hf_sg : f244 sg = eI g 12 gl := by rw [ef244, va_up_ne _ _ (ne_e hf_sg hf_fv_i4 (by simp))]; exact hf_sg
                        have hf_sr : f244 sr = eZ g 12 rn := by rw [ef244, va_up_ne _ _ (ne_e hf_sr hf_fv_i4 (by simp))]; exact hf_sr
                        have hf_ss : f244 ss = eR g n (vilR fs n) := by rw [ef244, va_up_ne _ _ (ne_e hf_ss hf_fv_i4 (by simp))]; exact hf_ss
                        have hf_sv : f244 sv = eR g nv (vilR fv nv) := by rw [ef244, va_up_ne _ _ (ne_e hf_sv hf_fv_i4 (by simp))]; exact hf_sv
                        have hf_sw : f244 sw = eR g nv (vilR fw nv) := by rw [ef244, va_up_ne _ _ (ne_e hf_sw hf_fv_i4 (by simp))]; exact hf_sw
                        have hf_fv_i4 : f244 (fv i4) = eI g 3 (upd z216 1 v243) := by rw [ef244]; exact va_up_self _ _ _
                        replace hFr : (fun _ : Nat → va_E => True) f244 := by rw [ef244]; exact trivial
                        refine lv_goto (tgt := 271) hx hb dX5_pass_245 (by decide) ?_
                        refine lv_iinc (v := nI (i4 + 1)) (lv' := [(5, .int (nI (i4 + 1))), (6, .ref (fv i4)), (4, .int (nI nv)), (3, .ref sv), (2, .int acc), (1, .int (rn (d0 % 12))), (0, .ref sm)]) hx hb dX5_pass_271 hl (k := 1) rfl (nI_1 _) (by decide) rfl (fun ls hl => ?_)
                        refine lv_goto (tgt := 206) hx hb dX5_pass_274 (by decide) ?_
                        exact ih206 (i4 + 1) f244 H locs (by omega) (by omega) (hSR.fr hFi (fun z => by rw [hb0]; simp)) (hVR.set hIv (by omega) hFi hf_fv_i4 (co_0 hz216 c223 c235 ev243) (fun j _ hne q _ => by rw [mapV_ne hne])) (hWR.fr hFi (fun z => by rw [hb0]; simp)) hf_sm hf_sg hf_sr hf_ss hf_sv hf_sw hFr hP hS ls (lv_sub hl [0, 2, 3, 4, 5, 6] rfl)
                      · skip
                        refine lv_iconst (v := 1) hx hb dX5_pass_238 (by decide) ?_
                        refine lv_goto (tgt := 243) hx hb dX5_pass_239 (by decide) ?_
                        refine lv_isub hx hb dX5_pass_243 ?_
                        refine lv_topi (fun v243 ev243 => ?_)
                        refine pn_iast (j := 1) hx hb hK hP hN hA hS hL_fv_i4 hf_fv_i4 rfl (by omega) (Nat.lt_of_lt_of_le (m := 100) (by omega) (by omega)) dX5_pass_244 (fun H locs hP hS => ?_)
                        obtain ⟨f244, ef244⟩ : ∃ z, z = va_up f206 (fv i4) (eI g 3 (upd z216 1 v243)) := ⟨_, rfl⟩
                        replace hP : PP g L f244 H := by rw [ef244]; exact hP
                        replace hFi : Fr f206 f244 [fv i4] := hFi.tr (show Fr f206 f244 [fv i4] by rw [ef244]; exact Fr.rf.up (by simp)) (by simp)
                        have hf_sm : f244 sm = eO 6 [.int (nI d0), .ref sg, .ref sr, .ref ss, .ref sv, .ref sw] := by rw [ef244, va_up_ne _ _ (ne_e hf_sm hf_fv_i4 (by simp))]; exact hf_sm
                        have hf_sg : f244 sg = eI g 12 gl := by rw [ef244, va_up_ne _ _ (ne_e hf_sg hf_fv_i4 (by simp))]; exact hf_sg
                        have hf_sr : f244 sr = eZ g 12 rn := by rw [ef244, va_up_ne _ _ (ne_e hf_sr hf_fv_i4 (by simp))]; exact hf_sr
                        have hf_ss : f244 ss = eR g n (vilR fs n) := by rw [ef244, va_up_ne _ _ (ne_e hf_ss hf_fv_i4 (by simp))]; exact hf_ss
                        have hf_sv : f244 sv = eR g nv (vilR fv nv) := by rw [ef244, va_up_ne _ _ (ne_e hf_sv hf_fv_i4 (by simp))]; exact hf_sv
                        have hf_sw : f244 sw = eR g nv (vilR fw nv) := by rw [ef244, va_up_ne _ _ (ne_e hf_sw hf_fv_i4 (by simp))]; exact hf_sw
                        have hf_fv_i4 : f244 (fv i4) = eI g 3 (upd z216 1 v243) := by rw [ef244]; exact va_up_self _ _ _
                        replace hFr : (fun _ : Nat → va_E => True) f244 := by rw [ef244]; exact trivial
                        refine lv_goto (tgt := 271) hx hb dX5_pass_245 (by decide) ?_
                        refine lv_iinc (v := nI (i4 + 1)) (lv' := [(5, .int (nI (i4 + 1))), (6, .ref (fv i4)), (4, .int (nI nv)), (3, .ref sv), (2, .int acc), (1, .int (rn (d0 % 12))), (0, .ref sm)]) hx hb dX5_pass_271 hl (k := 1) rfl (nI_1 _) (by decide) rfl (fun ls hl => ?_)
                        refine lv_goto (tgt := 206) hx hb dX5_pass_274 (by decide) ?_
                        exact ih206 (i4 + 1) f244 H locs (by omega) (by omega) (hSR.fr hFi (fun z => by rw [hb0]; simp)) (hVR.set hIv (by omega) hFi hf_fv_i4 (co_1 hz216 c223 c235 ev243) (fun j _ hne q _ => by rw [mapV_ne hne])) (hWR.fr hFi (fun z => by rw [hb0]; simp)) hf_sm hf_sg hf_sr hf_ss hf_sv hf_sw hFr hP hS ls (lv_sub hl [0, 2, 3, 4, 5, 6] rfl)
              exact K206 _ 0 f98 _ _ (Nat.lt_succ_self _) (Nat.zero_le _) (hSR) (by rw [mapV_0]; exact hVR) (hWR.cg (fun j _ q _ => by rw [show i2 = nv from (by omega)])) hf_sm hf_sg hf_sr hf_ss hf_sv hf_sw hFr hP hS ls (lv_sub hl [0, 1, 2, 3, 4, 5] rfl)
            · skip
              have c102 : ¬ nv ≤ i2 := fun h => c102 ((nI_leI (a := nv) (b := i2) (by omega) (by omega)).mpr h)
              refine lv_aload_n hx hb dX5_pass_105 rfl (lv_at hl 2 rfl) ?_
              refine lv_iload hx hb dX5_pass_106 (lv_at hl 0 rfl) ?_
              refine pn_rald (j := i2) hx hb hK hP hL_sw hf_sw rfl (by omega) (Nat.lt_of_lt_of_le (m := 100) (by omega) (by omega)) (vilR_at (by omega)) dX5_pass_108 ?_
              obtain ⟨hL_fw_i2, z108, hf_fw_i2, hz108⟩ := hWR i2 (by omega)
              have hb0 := hf_fw_i2
              have hFi : Fr f98 f98 [fw i2] := Fr.rf
              refine lv_astore (lv' := [(6, .ref (fw i2)), (5, .int (nI i2)), (4, .int (nI nv)), (3, .ref sw), (2, .int acc), (1, .int (rn (d0 % 12))), (0, .ref sm)]) hx hb dX5_pass_109 hl (by decide) rfl (fun ls hl => ?_)
              refine lv_iconst (v := 0) hx hb dX5_pass_111 (by decide) ?_
              refine lv_istore (lv' := [(7, .int 0), (6, .ref (fw i2)), (5, .int (nI i2)), (4, .int (nI nv)), (3, .ref sw), (2, .int acc), (1, .int (rn (d0 % 12))), (0, .ref sm)]) hx hb dX5_pass_112 hl (by decide) rfl (fun ls hl => ?_)
              have hf_fw_i2 : f98 (fw i2) = eI g 8 (mapN (lrnM (fun j => truth (sayB (kd j) (nu j) gl rn d0)) (rbB rn d0)) z108 0) := by rw [mapN_0]; exact hf_fw_i2
              have K114 : ∀ (n114 : Nat) (i3 : Nat) (f114 : Nat → va_E) (H : Heap) (locs : List Loc), n - i3 < n114 → i3 ≤ n → RowsB g L f114 2 n fs (fun j => pr2 (kd j) (nu j)) → Fr f98 f114 [fw i2] → f114 sm = eO 6 [.int (nI d0), .ref sg, .ref sr, .ref ss, .ref sv, .ref sw] → f114 sg = eI g 12 gl → f114 sr = eZ g 12 rn → f114 ss = eR g n (vilR fs n) → f114 sv = eR g nv (vilR fv nv) → f114 sw = eR g nv (vilR fw nv) → f114 (fw i2) = eI g 8 (mapN (lrnM (fun j => truth (sayB (kd j) (nu j) gl rn d0)) (rbB rn d0)) z108 i3) → (fun _ : Nat → va_E => True) f114 → PP g L f114 H → va_S A s.heap H locs → ∀ (ls : Array Slot), lv_has ls 8 [(7, .int (nI i3)), (6, .ref (fw i2)), (5, .int (nI i2)), (4, .int (nI nv)), (3, .ref sw), (2, .int acc), (1, .int (rn (d0 % 12))), (0, .ref sm)] → W p l e ({ frames := 2, cells := 0, slots := 0, locals := 49 } : Room) s m args below meth c H locs 0 0 Q (F0 m 114 ls []) := by
                intro n114
                induction n114 with
                | zero => intros; omega
                | succ n114 ih114 =>
                  intro i3 f114 H locs hm114 hi3 hSR hFi hq114_0 hq114_1 hq114_2 hq114_3 hq114_4 hq114_5 hq114_6 hFr hP hS ls hl
                  have hf_sm : f114 sm = eO 6 [.int (nI d0), .ref sg, .ref sr, .ref ss, .ref sv, .ref sw] := hq114_0
                  have hf_sg : f114 sg = eI g 12 gl := hq114_1
                  have hf_sr : f114 sr = eZ g 12 rn := hq114_2
                  have hf_ss : f114 ss = eR g n (vilR fs n) := hq114_3
                  have hf_sv : f114 sv = eR g nv (vilR fv nv) := hq114_4
                  have hf_sw : f114 sw = eR g nv (vilR fw nv) := hq114_5
                  have hf_fw_i2 : f114 (fw i2) = eI g 8 (mapN (lrnM (fun j => truth (sayB (kd j) (nu j) gl rn d0)) (rbB rn d0)) z108 i3) := hq114_6
                  refine lv_iload hx hb dX5_pass_114 (lv_at hl 0 rfl) ?_
                  refine lv_aload_n hx hb dX5_pass_116 rfl (lv_at hl 7 rfl) ?_
                  refine pg_get (C := RX5) (T := TX5) (N := 6) hx hb hts hi_X5 hown hK hP hL_sm hf_sm rfl 3 (by decide) (hts (.fieldLink RX5 18 "BarometerLeagueLaw$Sim" "signs" "[[I") (by decide +kernel)) (fun _ h9 => h9) rfl dX5_pass_117 ?_
                  refine pg_alen hx hb hK hP hL_ss hf_ss 4 rfl (v := nI n) rfl dX5_pass_120 ?_
                  refine lv_icmp_ge (tgt := 188) hx hb dX5_pass_121 (by decide) (fun c121 => ?_) (fun c121 => ?_)
                  · skip
                    have c121 : n ≤ i3 := (nI_leI (a := n) (b := i3) (by omega) (by omega)).mp (show nI n ≤ nI i3 from c121)
                    refine lv_iinc (v := nI (i2 + 1)) (lv' := [(5, .int (nI (i2 + 1))), (7, .int (nI i3)), (6, .ref (fw i2)), (4, .int (nI nv)), (3, .ref sw), (2, .int acc), (1, .int (rn (d0 % 12))), (0, .ref sm)]) hx hb dX5_pass_188 hl (k := 2) rfl (nI_1 _) (by decide) rfl (fun ls hl => ?_)
                    refine lv_goto (tgt := 98) hx hb dX5_pass_191 (by decide) ?_
                    exact ih98 (i2 + 1) f114 H locs (by omega) (by omega) (hSR) (hVR.fr hFi (fun z => by rw [hb0]; simp)) (hWR.set hIw (by omega) hFi hf_fw_i2 (wrow hz108 (show i3 = n from (by omega))) (fun j _ hne q _ => by rw [mapV_ne hne])) hf_sm hf_sg hf_sr hf_ss hf_sv hf_sw hFr hP hS ls (lv_sub hl [0, 3, 4, 5, 6, 7] rfl)
                  · skip
                    have c121 : ¬ n ≤ i3 := fun h => c121 ((nI_leI (a := n) (b := i3) (by omega) (by omega)).mpr h)
                    have hb1 := hf_fw_i2
                    refine lv_aload_n hx hb dX5_pass_124 rfl (lv_at hl 7 rfl) ?_
                    refine lv_iload hx hb dX5_pass_125 (lv_at hl 0 rfl) ?_
                    refine lv_aload_n hx hb dX5_pass_127 rfl (lv_at hl 7 rfl) ?_
                    refine pg_get (C := RX5) (T := TX5) (N := 6) hx hb hts hi_X5 hown hK hP hL_sm hf_sm rfl 0 (by decide) (hts (.fieldLink RX5 28 "BarometerLeagueLaw$Sim" "day" "I") (by decide +kernel)) (fun _ h9 => h9) rfl dX5_pass_128 ?_
                    refine ro_V (As := [.int (nI i3), .int (nI d0)]) (rest := []) ⟨hx, hb, hml, hown, hts⟩ (m_X5_says l g L f114 _ _ _ _ _ _ _ _ _ _ _ _ _ i3 d0 hL_sm hf_sm hL_sg hf_sg hL_sr hf_sr hL_ss hf_ss hn hrn hnu hgl hSR (by omega) hd) (cwV 2 hts gX5_pass_X5_says rfl rfl rfl (by decide +kernel) ⟨Nat.le_of_ble_eq_true rfl, Nat.le_of_ble_eq_true rfl⟩) hK hP hL_sm hf_sm rfl rfl hl.1 rfl (Nat.le_of_ble_eq_true rfl) dX5_pass_131 ⟨Nat.zero_le _, Nat.zero_le _⟩ (fun r131 hr131 => ?_)
                    have hr131 : r131 = b2i (sayB (kd i3) (nu i3) gl rn d0) := hr131
                    subst hr131
                    refine lv_iload_n hx hb dX5_pass_134 rfl (lv_at hl 6 rfl) ?_
                    refine lv_icmp_ne (tgt := 168) hx hb dX5_pass_135 (by decide) (fun c135 => ?_) (fun c135 => ?_)
                    · skip
                      refine lv_aload hx hb dX5_pass_168 (lv_at hl 1 rfl) ?_
                      refine lv_iload hx hb dX5_pass_170 (lv_at hl 0 rfl) ?_
                      refine lv_iconst (v := 3) hx hb dX5_pass_172 (by decide) ?_
                      refine lv_aload hx hb dX5_pass_173 (lv_at hl 1 rfl) ?_
                      refine lv_iload hx hb dX5_pass_175 (lv_at hl 0 rfl) ?_
                      refine pn_iald (j := i3) hx hb hK hP hL_fw_i2 hf_fw_i2 rfl (by omega) (Nat.lt_of_lt_of_le (m := 100) (by omega) (by omega)) dX5_pass_177 ?_
                      refine lv_imul hx hb dX5_pass_178 ?_
                      refine lv_topi (fun v178 ev178 => ?_)
                      refine lv_iconst (v := 4) hx hb dX5_pass_179 (by decide) ?_
                      refine lv_idiv hx hb dX5_pass_180 (by decide) ?_
                      refine lv_topi (fun v180 ev180 => ?_)
                      refine pn_iast (j := i3) hx hb hK hP hN hA hS hL_fw_i2 hf_fw_i2 rfl (by omega) (Nat.lt_of_lt_of_le (m := 100) (by omega) (by omega)) dX5_pass_181 (fun H locs hP hS => ?_)
                      obtain ⟨f181, ef181⟩ : ∃ z, z = va_up f114 (fw i2) (eI g 8 (upd (mapN (lrnM (fun j => truth (sayB (kd j) (nu j) gl rn d0)) (rbB rn d0)) z108 i3) i3 v180)) := ⟨_, rfl⟩
                      replace hP : PP g L f181 H := by rw [ef181]; exact hP
                      replace hFi : Fr f98 f181 [fw i2] := hFi.tr (show Fr f114 f181 [fw i2] by rw [ef181]; exact Fr.rf.up (by simp)) (by simp)
                      have hFj := (show Fr f114 f181 [fw i2] by rw [ef181]; exact Fr.rf.up (by simp))
                      have hf_sm : f181 sm = eO 6 [.int (nI d0), .ref sg, .ref sr, .ref ss, .ref sv, .ref sw] := by rw [ef181, va_up_ne _ _ (ne_e hf_sm hf_fw_i2 (by simp))]; exact hf_sm
                      have hf_sg : f181 sg = eI g 12 gl := by rw [ef181, va_up_ne _ _ (ne_e hf_sg hf_fw_i2 (by simp))]; exact hf_sg
                      have hf_sr : f181 sr = eZ g 12 rn := by rw [ef181, va_up_ne _ _ (ne_e hf_sr hf_fw_i2 (by simp))]; exact hf_sr
                      have hf_ss : f181 ss = eR g n (vilR fs n) := by rw [ef181, va_up_ne _ _ (ne_e hf_ss hf_fw_i2 (by simp))]; exact hf_ss
                      have hf_sv : f181 sv = eR g nv (vilR fv nv) := by rw [ef181, va_up_ne _ _ (ne_e hf_sv hf_fw_i2 (by simp))]; exact hf_sv
                      have hf_sw : f181 sw = eR g nv (vilR fw nv) := by rw [ef181, va_up_ne _ _ (ne_e hf_sw hf_fw_i2 (by simp))]; exact hf_sw
                      have hf_fw_i2 : f181 (fw i2) = eI g 8 (upd (mapN (lrnM (fun j => truth (sayB (kd j) (nu j) gl rn d0)) (rbB rn d0)) z108 i3) i3 v180) := by rw [ef181]; exact va_up_self _ _ _
                      replace hFr : (fun _ : Nat → va_E => True) f181 := by rw [ef181]; exact trivial
                      refine lv_iinc (v := nI (i3 + 1)) (lv' := [(7, .int (nI (i3 + 1))), (6, .ref (fw i2)), (5, .int (nI i2)), (4, .int (nI nv)), (3, .ref sw), (2, .int acc), (1, .int (rn (d0 % 12))), (0, .ref sm)]) hx hb dX5_pass_182 hl (k := 0) rfl (nI_1 _) (by decide) rfl (fun ls hl => ?_)
                      refine lv_goto (tgt := 114) hx hb dX5_pass_185 (by decide) ?_
                      rw [mapN_s (F := (lrnM (fun j => truth (sayB (kd j) (nu j) gl rn d0)) (rbB rn d0))) (w := z108) (n := i3) (lr_no hrb c135 (mapN_at _ _ _) ev178 ev180)] at hf_fw_i2
                      exact ih114 (i3 + 1) f181 H locs (by omega) (by omega) (hSR.fr hFj (fun z => by rw [hb1]; simp)) (hFi) hf_sm hf_sg hf_sr hf_ss hf_sv hf_sw hf_fw_i2 hFr hP hS ls (lv_sub hl [0, 1, 2, 3, 4, 5, 6, 7] rfl)
                    · skip
                      refine lv_aload hx hb dX5_pass_138 (lv_at hl 1 rfl) ?_
                      refine lv_iload hx hb dX5_pass_140 (lv_at hl 0 rfl) ?_
                      refine lv_aload hx hb dX5_pass_142 (lv_at hl 1 rfl) ?_
                      refine lv_iload hx hb dX5_pass_144 (lv_at hl 0 rfl) ?_
                      refine pn_iald (j := i3) hx hb hK hP hL_fw_i2 hf_fw_i2 rfl (by omega) (Nat.lt_of_lt_of_le (m := 100) (by omega) (by omega)) dX5_pass_146 ?_
                      refine lv_bipush (v := 100) hx hb dX5_pass_147 (by decide) ?_
                      refine lv_icmp_ne (tgt := 157) hx hb dX5_pass_149 (by decide) (fun c149 => ?_) (fun c149 => ?_)
                      · skip
                        refine lv_aload hx hb dX5_pass_157 (lv_at hl 1 rfl) ?_
                        refine lv_iload hx hb dX5_pass_159 (lv_at hl 0 rfl) ?_
                        refine pn_iald (j := i3) hx hb hK hP hL_fw_i2 hf_fw_i2 rfl (by omega) (Nat.lt_of_lt_of_le (m := 100) (by omega) (by omega)) dX5_pass_161 ?_
                        refine lv_iconst (v := 1) hx hb dX5_pass_162 (by decide) ?_
                        refine lv_iadd hx hb dX5_pass_163 ?_
                        refine lv_topi (fun v163 ev163 => ?_)
                        refine pn_iast (j := i3) hx hb hK hP hN hA hS hL_fw_i2 hf_fw_i2 rfl (by omega) (Nat.lt_of_lt_of_le (m := 100) (by omega) (by omega)) dX5_pass_164 (fun H locs hP hS => ?_)
                        obtain ⟨f164, ef164⟩ : ∃ z, z = va_up f114 (fw i2) (eI g 8 (upd (mapN (lrnM (fun j => truth (sayB (kd j) (nu j) gl rn d0)) (rbB rn d0)) z108 i3) i3 v163)) := ⟨_, rfl⟩
                        replace hP : PP g L f164 H := by rw [ef164]; exact hP
                        replace hFi : Fr f98 f164 [fw i2] := hFi.tr (show Fr f114 f164 [fw i2] by rw [ef164]; exact Fr.rf.up (by simp)) (by simp)
                        have hFj := (show Fr f114 f164 [fw i2] by rw [ef164]; exact Fr.rf.up (by simp))
                        have hf_sm : f164 sm = eO 6 [.int (nI d0), .ref sg, .ref sr, .ref ss, .ref sv, .ref sw] := by rw [ef164, va_up_ne _ _ (ne_e hf_sm hf_fw_i2 (by simp))]; exact hf_sm
                        have hf_sg : f164 sg = eI g 12 gl := by rw [ef164, va_up_ne _ _ (ne_e hf_sg hf_fw_i2 (by simp))]; exact hf_sg
                        have hf_sr : f164 sr = eZ g 12 rn := by rw [ef164, va_up_ne _ _ (ne_e hf_sr hf_fw_i2 (by simp))]; exact hf_sr
                        have hf_ss : f164 ss = eR g n (vilR fs n) := by rw [ef164, va_up_ne _ _ (ne_e hf_ss hf_fw_i2 (by simp))]; exact hf_ss
                        have hf_sv : f164 sv = eR g nv (vilR fv nv) := by rw [ef164, va_up_ne _ _ (ne_e hf_sv hf_fw_i2 (by simp))]; exact hf_sv
                        have hf_sw : f164 sw = eR g nv (vilR fw nv) := by rw [ef164, va_up_ne _ _ (ne_e hf_sw hf_fw_i2 (by simp))]; exact hf_sw
                        have hf_fw_i2 : f164 (fw i2) = eI g 8 (upd (mapN (lrnM (fun j => truth (sayB (kd j) (nu j) gl rn d0)) (rbB rn d0)) z108 i3) i3 v163) := by rw [ef164]; exact va_up_self _ _ _
                        replace hFr : (fun _ : Nat → va_E => True) f164 := by rw [ef164]; exact trivial
                        refine lv_goto (tgt := 182) hx hb dX5_pass_165 (by decide) ?_
                        refine lv_iinc (v := nI (i3 + 1)) (lv' := [(7, .int (nI (i3 + 1))), (6, .ref (fw i2)), (5, .int (nI i2)), (4, .int (nI nv)), (3, .ref sw), (2, .int acc), (1, .int (rn (d0 % 12))), (0, .ref sm)]) hx hb dX5_pass_182 hl (k := 0) rfl (nI_1 _) (by decide) rfl (fun ls hl => ?_)
                        refine lv_goto (tgt := 114) hx hb dX5_pass_185 (by decide) ?_
                        rw [mapN_s (F := (lrnM (fun j => truth (sayB (kd j) (nu j) gl rn d0)) (rbB rn d0))) (w := z108) (n := i3) (lr_add hrb c135 (mapN_at _ _ _) c149 ev163)] at hf_fw_i2
                        exact ih114 (i3 + 1) f164 H locs (by omega) (by omega) (hSR.fr hFj (fun z => by rw [hb1]; simp)) (hFi) hf_sm hf_sg hf_sr hf_ss hf_sv hf_sw hf_fw_i2 hFr hP hS ls (lv_sub hl [0, 1, 2, 3, 4, 5, 6, 7] rfl)
                      · skip
                        refine lv_bipush (v := 100) hx hb dX5_pass_152 (by decide) ?_
                        refine lv_goto (tgt := 164) hx hb dX5_pass_154 (by decide) ?_
                        refine pn_iast (j := i3) hx hb hK hP hN hA hS hL_fw_i2 hf_fw_i2 rfl (by omega) (Nat.lt_of_lt_of_le (m := 100) (by omega) (by omega)) dX5_pass_164 (fun H locs hP hS => ?_)
                        obtain ⟨f164, ef164⟩ : ∃ z, z = va_up f114 (fw i2) (eI g 8 (upd (mapN (lrnM (fun j => truth (sayB (kd j) (nu j) gl rn d0)) (rbB rn d0)) z108 i3) i3 100)) := ⟨_, rfl⟩
                        replace hP : PP g L f164 H := by rw [ef164]; exact hP
                        replace hFi : Fr f98 f164 [fw i2] := hFi.tr (show Fr f114 f164 [fw i2] by rw [ef164]; exact Fr.rf.up (by simp)) (by simp)
                        have hFj := (show Fr f114 f164 [fw i2] by rw [ef164]; exact Fr.rf.up (by simp))
                        have hf_sm : f164 sm = eO 6 [.int (nI d0), .ref sg, .ref sr, .ref ss, .ref sv, .ref sw] := by rw [ef164, va_up_ne _ _ (ne_e hf_sm hf_fw_i2 (by simp))]; exact hf_sm
                        have hf_sg : f164 sg = eI g 12 gl := by rw [ef164, va_up_ne _ _ (ne_e hf_sg hf_fw_i2 (by simp))]; exact hf_sg
                        have hf_sr : f164 sr = eZ g 12 rn := by rw [ef164, va_up_ne _ _ (ne_e hf_sr hf_fw_i2 (by simp))]; exact hf_sr
                        have hf_ss : f164 ss = eR g n (vilR fs n) := by rw [ef164, va_up_ne _ _ (ne_e hf_ss hf_fw_i2 (by simp))]; exact hf_ss
                        have hf_sv : f164 sv = eR g nv (vilR fv nv) := by rw [ef164, va_up_ne _ _ (ne_e hf_sv hf_fw_i2 (by simp))]; exact hf_sv
                        have hf_sw : f164 sw = eR g nv (vilR fw nv) := by rw [ef164, va_up_ne _ _ (ne_e hf_sw hf_fw_i2 (by simp))]; exact hf_sw
                        have hf_fw_i2 : f164 (fw i2) = eI g 8 (upd (mapN (lrnM (fun j => truth (sayB (kd j) (nu j) gl rn d0)) (rbB rn d0)) z108 i3) i3 100) := by rw [ef164]; exact va_up_self _ _ _
                        replace hFr : (fun _ : Nat → va_E => True) f164 := by rw [ef164]; exact trivial
                        refine lv_goto (tgt := 182) hx hb dX5_pass_165 (by decide) ?_
                        refine lv_iinc (v := nI (i3 + 1)) (lv' := [(7, .int (nI (i3 + 1))), (6, .ref (fw i2)), (5, .int (nI i2)), (4, .int (nI nv)), (3, .ref sw), (2, .int acc), (1, .int (rn (d0 % 12))), (0, .ref sm)]) hx hb dX5_pass_182 hl (k := 0) rfl (nI_1 _) (by decide) rfl (fun ls hl => ?_)
                        refine lv_goto (tgt := 114) hx hb dX5_pass_185 (by decide) ?_
                        rw [mapN_s (F := (lrnM (fun j => truth (sayB (kd j) (nu j) gl rn d0)) (rbB rn d0))) (w := z108) (n := i3) (lr_top hrb c135 (mapN_at _ _ _) c149)] at hf_fw_i2
                        exact ih114 (i3 + 1) f164 H locs (by omega) (by omega) (hSR.fr hFj (fun z => by rw [hb1]; simp)) (hFi) hf_sm hf_sg hf_sr hf_ss hf_sv hf_sw hf_fw_i2 hFr hP hS ls (lv_sub hl [0, 1, 2, 3, 4, 5, 6, 7] rfl)
              exact K114 _ 0 f98 _ _ (Nat.lt_succ_self _) (Nat.zero_le _) (hSR) (hFi) hf_sm hf_sg hf_sr hf_ss hf_sv hf_sw hf_fw_i2 hFr hP hS ls (lv_sub hl [0, 1, 2, 3, 4, 5, 6, 7] rfl)
        exact K98 _ 0 f17 _ _ (Nat.lt_succ_self _) (Nat.zero_le _) (hSR) (hVR.cg (fun j _ q _ => by rw [show i = nv from (by omega)])) (by rw [mapV_0]; exact hWR) hf_sm hf_sg hf_sr hf_ss hf_sv hf_sw hFr hP hS ls (lv_sub hl [0, 1, 2, 3, 4, 5] rfl)
      · skip
        have c23 : ¬ nv ≤ i := fun h => c23 ((nI_leI (a := nv) (b := i) (by omega) (by omega)).mpr h)
        refine lv_aload_n hx hb dX5_pass_26 rfl (lv_at hl 3 rfl) ?_
        refine pg_get (C := RX5) (T := TX5) (N := 6) hx hb hts hi_X5 hown hK hP hL_sm hf_sm rfl 4 (by decide) (hts (.fieldLink RX5 22 "BarometerLeagueLaw$Sim" "villages" "[[I") (by decide +kernel)) (fun _ h9 => h9) rfl dX5_pass_27 ?_
        refine lv_iload_n hx hb dX5_pass_30 rfl (lv_at hl 0 rfl) ?_
        refine pn_rald (j := i) hx hb hK hP hL_sv hf_sv rfl (by omega) (Nat.lt_of_lt_of_le (m := 100) (by omega) (by omega)) (vilR_at (by omega)) dX5_pass_31 ?_
        obtain ⟨hL_fv_i, z31, hf_fv_i, hz31⟩ := hVR i (by omega)
        have hb0 := hf_fv_i
        have hFi : Fr f17 f17 [fv i] := Fr.rf
        refine lv_astore (lv' := [(4, .ref (fv i)), (3, .int (nI i)), (2, .int acc), (1, .int (rn (d0 % 12))), (0, .ref sm)]) hx hb dX5_pass_32 hl (by decide) rfl (fun ls hl => ?_)
        refine lv_aload_n hx hb dX5_pass_34 rfl (lv_at hl 4 rfl) ?_
        refine lv_iload_n hx hb dX5_pass_35 rfl (lv_at hl 1 rfl) ?_
        refine ro_V (As := [.int (nI i)]) (rest := []) ⟨hx, hb, hml, hown, hts⟩ (m_X5_lean l g L f17 _ _ _ _ _ _ _ _ _ _ _ _ _ _ _ _ i hL_sm hf_sm hL_sg hf_sg hL_sr hf_sr hL_ss hf_ss hL_sw hf_sw hn hrn hnu hgl hSR hWR hd (by omega) hnv) (cwV 1 hts gX5_pass_X5_lean rfl rfl rfl (by decide +kernel) ⟨Nat.le_of_ble_eq_true rfl, Nat.le_of_ble_eq_true rfl⟩) hK hP hL_sm hf_sm rfl rfl hl.1 rfl (Nat.le_of_ble_eq_true rfl) dX5_pass_36 ⟨Nat.zero_le _, Nat.zero_le _⟩ (fun r36 hr36 => ?_)
        have hr36 : r36 = leadN (fun j => truth (sayB (kd j) (nu j) gl rn d0)) (vs i).2.2.2.2 n := hr36
        subst hr36
        refine lv_if_le (tgt := 49) hx hb dX5_pass_39 (by decide) (fun c39 => ?_) (fun c39 => ?_)
        · skip
          refine lv_iload_n hx hb dX5_pass_49 rfl (lv_at hl 3 rfl) ?_
          refine lv_if_ne (tgt := 75) hx hb dX5_pass_50 (by decide) (fun c50 => ?_) (fun c50 => ?_)
          · skip
            refine lv_aload hx hb dX5_pass_75 (lv_at hl 0 rfl) ?_
            refine lv_iconst (v := 2) hx hb dX5_pass_77 (by decide) ?_
            refine lv_iconst (v := 0) hx hb dX5_pass_78 (by decide) ?_
            refine pn_iast (j := 2) hx hb hK hP hN hA hS hL_fv_i hf_fv_i rfl (by omega) (Nat.lt_of_lt_of_le (m := 100) (by omega) (by omega)) dX5_pass_79 (fun H locs hP hS => ?_)
            obtain ⟨f79, ef79⟩ : ∃ z, z = va_up f17 (fv i) (eI g 3 (upd z31 2 0)) := ⟨_, rfl⟩
            replace hP : PP g L f79 H := by rw [ef79]; exact hP
            replace hFi : Fr f17 f79 [fv i] := hFi.tr (show Fr f17 f79 [fv i] by rw [ef79]; exact Fr.rf.up (by simp)) (by simp)
            have hf_sm : f79 sm = eO 6 [.int (nI d0), .ref sg, .ref sr, .ref ss, .ref sv, .ref sw] := by rw [ef79, va_up_ne _ _ (ne_e hf_sm hf_fv_i (by simp))]; exact hf_sm
            have hf_sg : f79 sg = eI g 12 gl := by rw [ef79, va_up_ne _ _ (ne_e hf_sg hf_fv_i (by simp))]; exact hf_sg
            have hf_sr : f79 sr = eZ g 12 rn := by rw [ef79, va_up_ne _ _ (ne_e hf_sr hf_fv_i (by simp))]; exact hf_sr
            have hf_ss : f79 ss = eR g n (vilR fs n) := by rw [ef79, va_up_ne _ _ (ne_e hf_ss hf_fv_i (by simp))]; exact hf_ss
            have hf_sv : f79 sv = eR g nv (vilR fv nv) := by rw [ef79, va_up_ne _ _ (ne_e hf_sv hf_fv_i (by simp))]; exact hf_sv
            have hf_sw : f79 sw = eR g nv (vilR fw nv) := by rw [ef79, va_up_ne _ _ (ne_e hf_sw hf_fv_i (by simp))]; exact hf_sw
            have hf_fv_i : f79 (fv i) = eI g 3 (upd z31 2 0) := by rw [ef79]; exact va_up_self _ _ _
            replace hFr : (fun _ : Nat → va_E => True) f79 := by rw [ef79]; exact trivial
            refine lv_iinc (v := nI (i + 1)) (lv' := [(3, .int (nI (i + 1))), (4, .ref (fv i)), (2, .int acc), (1, .int (rn (d0 % 12))), (0, .ref sm)]) hx hb dX5_pass_80 hl (k := 1) rfl (nI_1 _) (by decide) rfl (fun ls hl => ?_)
            refine lv_goto (tgt := 17) hx hb dX5_pass_83 (by decide) ?_
            have hh : hitM (fun j => truth (sayB (kd j) (nu j) gl rn d0)) (rbB rn d0) n (vs i) = false := hit_3 hrb c39 c50
            exact ih17 (i + 1) acc f79 H locs (by omega) (by omega) (sumN_n ha hh) (hSR.fr hFi (fun z => by rw [hb0]; simp)) (hVR.set hIv (by omega) hFi hf_fv_i (row_no hz31 hh) (fun j _ hne q _ => by rw [mapV_ne hne])) (hWR.fr hFi (fun z => by rw [hb0]; simp)) hf_sm hf_sg hf_sr hf_ss hf_sv hf_sw hFr hP hS ls (lv_sub hl [0, 2, 3, 4] rfl)
          · skip
            refine lv_aload hx hb dX5_pass_53 (lv_at hl 0 rfl) ?_
            refine lv_iconst (v := 0) hx hb dX5_pass_55 (by decide) ?_
            refine lv_dup2_11 hx hb dX5_pass_56 rfl rfl ?_
            refine pn_iald (j := 0) hx hb hK hP hL_fv_i hf_fv_i rfl (by omega) (Nat.lt_of_lt_of_le (m := 100) (by omega) (by omega)) dX5_pass_57 ?_
            refine lv_iconst (v := 1) hx hb dX5_pass_58 (by decide) ?_
            refine lv_iadd hx hb dX5_pass_59 ?_
            refine lv_topi (fun v59 ev59 => ?_)
            refine pn_iast (j := 0) hx hb hK hP hN hA hS hL_fv_i hf_fv_i rfl (by omega) (Nat.lt_of_lt_of_le (m := 100) (by omega) (by omega)) dX5_pass_60 (fun H locs hP hS => ?_)
            obtain ⟨f60, ef60⟩ : ∃ z, z = va_up f17 (fv i) (eI g 3 (upd z31 0 v59)) := ⟨_, rfl⟩
            replace hP : PP g L f60 H := by rw [ef60]; exact hP
            replace hFi : Fr f17 f60 [fv i] := hFi.tr (show Fr f17 f60 [fv i] by rw [ef60]; exact Fr.rf.up (by simp)) (by simp)
            have hf_sm : f60 sm = eO 6 [.int (nI d0), .ref sg, .ref sr, .ref ss, .ref sv, .ref sw] := by rw [ef60, va_up_ne _ _ (ne_e hf_sm hf_fv_i (by simp))]; exact hf_sm
            have hf_sg : f60 sg = eI g 12 gl := by rw [ef60, va_up_ne _ _ (ne_e hf_sg hf_fv_i (by simp))]; exact hf_sg
            have hf_sr : f60 sr = eZ g 12 rn := by rw [ef60, va_up_ne _ _ (ne_e hf_sr hf_fv_i (by simp))]; exact hf_sr
            have hf_ss : f60 ss = eR g n (vilR fs n) := by rw [ef60, va_up_ne _ _ (ne_e hf_ss hf_fv_i (by simp))]; exact hf_ss
            have hf_sv : f60 sv = eR g nv (vilR fv nv) := by rw [ef60, va_up_ne _ _ (ne_e hf_sv hf_fv_i (by simp))]; exact hf_sv
            have hf_sw : f60 sw = eR g nv (vilR fw nv) := by rw [ef60, va_up_ne _ _ (ne_e hf_sw hf_fv_i (by simp))]; exact hf_sw
            have hf_fv_i : f60 (fv i) = eI g 3 (upd z31 0 v59) := by rw [ef60]; exact va_up_self _ _ _
            replace hFr : (fun _ : Nat → va_E => True) f60 := by rw [ef60]; exact trivial
            refine lv_aload hx hb dX5_pass_61 (lv_at hl 0 rfl) ?_
            refine lv_iconst (v := 2) hx hb dX5_pass_63 (by decide) ?_
            refine lv_dup2_11 hx hb dX5_pass_64 rfl rfl ?_
            refine pn_iald (j := 2) hx hb hK hP hL_fv_i hf_fv_i rfl (by omega) (Nat.lt_of_lt_of_le (m := 100) (by omega) (by omega)) dX5_pass_65 ?_
            refine lv_iconst (v := 1) hx hb dX5_pass_66 (by decide) ?_
            refine lv_iadd hx hb dX5_pass_67 ?_
            refine lv_topi (fun v67 ev67 => ?_)
            refine pn_iast (j := 2) hx hb hK hP hN hA hS hL_fv_i hf_fv_i rfl (by omega) (Nat.lt_of_lt_of_le (m := 100) (by omega) (by omega)) dX5_pass_68 (fun H locs hP hS => ?_)
            obtain ⟨f68, ef68⟩ : ∃ z, z = va_up f60 (fv i) (eI g 3 (upd (upd z31 0 v59) 2 v67)) := ⟨_, rfl⟩
            replace hP : PP g L f68 H := by rw [ef68]; exact hP
            replace hFi : Fr f17 f68 [fv i] := hFi.tr (show Fr f60 f68 [fv i] by rw [ef68]; exact Fr.rf.up (by simp)) (by simp)
            have hf_sm : f68 sm = eO 6 [.int (nI d0), .ref sg, .ref sr, .ref ss, .ref sv, .ref sw] := by rw [ef68, va_up_ne _ _ (ne_e hf_sm hf_fv_i (by simp))]; exact hf_sm
            have hf_sg : f68 sg = eI g 12 gl := by rw [ef68, va_up_ne _ _ (ne_e hf_sg hf_fv_i (by simp))]; exact hf_sg
            have hf_sr : f68 sr = eZ g 12 rn := by rw [ef68, va_up_ne _ _ (ne_e hf_sr hf_fv_i (by simp))]; exact hf_sr
            have hf_ss : f68 ss = eR g n (vilR fs n) := by rw [ef68, va_up_ne _ _ (ne_e hf_ss hf_fv_i (by simp))]; exact hf_ss
            have hf_sv : f68 sv = eR g nv (vilR fv nv) := by rw [ef68, va_up_ne _ _ (ne_e hf_sv hf_fv_i (by simp))]; exact hf_sv
            have hf_sw : f68 sw = eR g nv (vilR fw nv) := by rw [ef68, va_up_ne _ _ (ne_e hf_sw hf_fv_i (by simp))]; exact hf_sw
            have hf_fv_i : f68 (fv i) = eI g 3 (upd (upd z31 0 v59) 2 v67) := by rw [ef68]; exact va_up_self _ _ _
            replace hFr : (fun _ : Nat → va_E => True) f68 := by rw [ef68]; exact trivial
            obtain ⟨v69, ev69⟩ : ∃ y : Int32, y = acc + 1 := ⟨_, rfl⟩
            refine lv_iinc (v := v69) (lv' := [(2, .int v69), (4, .ref (fv i)), (3, .int (nI i)), (1, .int (rn (d0 % 12))), (0, .ref sm)]) hx hb dX5_pass_69 hl (k := 2) rfl (by rw [ev69]; rfl) (by decide) rfl (fun ls hl => ?_)
            refine lv_goto (tgt := 80) hx hb dX5_pass_72 (by decide) ?_
            refine lv_iinc (v := nI (i + 1)) (lv' := [(3, .int (nI (i + 1))), (2, .int v69), (4, .ref (fv i)), (1, .int (rn (d0 % 12))), (0, .ref sm)]) hx hb dX5_pass_80 hl (k := 2) rfl (nI_1 _) (by decide) rfl (fun ls hl => ?_)
            refine lv_goto (tgt := 17) hx hb dX5_pass_83 (by decide) ?_
            have hh : hitM (fun j => truth (sayB (kd j) (nu j) gl rn d0)) (rbB rn d0) n (vs i) = true := hit_4 hrb c39 c50
            exact ih17 (i + 1) v69 f68 H locs (by omega) (by omega) (sumN_h ha hh ev69) (hSR.fr hFi (fun z => by rw [hb0]; simp)) (hVR.set hIv (by omega) hFi hf_fv_i (row_hit hz31 hh ev59 ev67) (fun j _ hne q _ => by rw [mapV_ne hne])) (hWR.fr hFi (fun z => by rw [hb0]; simp)) hf_sm hf_sg hf_sr hf_ss hf_sv hf_sw hFr hP hS ls (lv_sub hl [0, 1, 3, 4] rfl)
        · skip
          refine lv_iload_n hx hb dX5_pass_42 rfl (lv_at hl 3 rfl) ?_
          refine lv_if_eq (tgt := 75) hx hb dX5_pass_43 (by decide) (fun c43 => ?_) (fun c43 => ?_)
          · skip
            refine lv_aload hx hb dX5_pass_75 (lv_at hl 0 rfl) ?_
            refine lv_iconst (v := 2) hx hb dX5_pass_77 (by decide) ?_
            refine lv_iconst (v := 0) hx hb dX5_pass_78 (by decide) ?_
            refine pn_iast (j := 2) hx hb hK hP hN hA hS hL_fv_i hf_fv_i rfl (by omega) (Nat.lt_of_lt_of_le (m := 100) (by omega) (by omega)) dX5_pass_79 (fun H locs hP hS => ?_)
            obtain ⟨f79, ef79⟩ : ∃ z, z = va_up f17 (fv i) (eI g 3 (upd z31 2 0)) := ⟨_, rfl⟩
            replace hP : PP g L f79 H := by rw [ef79]; exact hP
            replace hFi : Fr f17 f79 [fv i] := hFi.tr (show Fr f17 f79 [fv i] by rw [ef79]; exact Fr.rf.up (by simp)) (by simp)
            have hf_sm : f79 sm = eO 6 [.int (nI d0), .ref sg, .ref sr, .ref ss, .ref sv, .ref sw] := by rw [ef79, va_up_ne _ _ (ne_e hf_sm hf_fv_i (by simp))]; exact hf_sm
            have hf_sg : f79 sg = eI g 12 gl := by rw [ef79, va_up_ne _ _ (ne_e hf_sg hf_fv_i (by simp))]; exact hf_sg
            have hf_sr : f79 sr = eZ g 12 rn := by rw [ef79, va_up_ne _ _ (ne_e hf_sr hf_fv_i (by simp))]; exact hf_sr
            have hf_ss : f79 ss = eR g n (vilR fs n) := by rw [ef79, va_up_ne _ _ (ne_e hf_ss hf_fv_i (by simp))]; exact hf_ss
            have hf_sv : f79 sv = eR g nv (vilR fv nv) := by rw [ef79, va_up_ne _ _ (ne_e hf_sv hf_fv_i (by simp))]; exact hf_sv
            have hf_sw : f79 sw = eR g nv (vilR fw nv) := by rw [ef79, va_up_ne _ _ (ne_e hf_sw hf_fv_i (by simp))]; exact hf_sw
            have hf_fv_i : f79 (fv i) = eI g 3 (upd z31 2 0) := by rw [ef79]; exact va_up_self _ _ _
            replace hFr : (fun _ : Nat → va_E => True) f79 := by rw [ef79]; exact trivial
            refine lv_iinc (v := nI (i + 1)) (lv' := [(3, .int (nI (i + 1))), (4, .ref (fv i)), (2, .int acc), (1, .int (rn (d0 % 12))), (0, .ref sm)]) hx hb dX5_pass_80 hl (k := 1) rfl (nI_1 _) (by decide) rfl (fun ls hl => ?_)
            refine lv_goto (tgt := 17) hx hb dX5_pass_83 (by decide) ?_
            have hh : hitM (fun j => truth (sayB (kd j) (nu j) gl rn d0)) (rbB rn d0) n (vs i) = false := hit_2 hrb c39 c43
            exact ih17 (i + 1) acc f79 H locs (by omega) (by omega) (sumN_n ha hh) (hSR.fr hFi (fun z => by rw [hb0]; simp)) (hVR.set hIv (by omega) hFi hf_fv_i (row_no hz31 hh) (fun j _ hne q _ => by rw [mapV_ne hne])) (hWR.fr hFi (fun z => by rw [hb0]; simp)) hf_sm hf_sg hf_sr hf_ss hf_sv hf_sw hFr hP hS ls (lv_sub hl [0, 2, 3, 4] rfl)
          · skip
            refine lv_goto (tgt := 53) hx hb dX5_pass_46 (by decide) ?_
            refine lv_aload hx hb dX5_pass_53 (lv_at hl 0 rfl) ?_
            refine lv_iconst (v := 0) hx hb dX5_pass_55 (by decide) ?_
            refine lv_dup2_11 hx hb dX5_pass_56 rfl rfl ?_
            refine pn_iald (j := 0) hx hb hK hP hL_fv_i hf_fv_i rfl (by omega) (Nat.lt_of_lt_of_le (m := 100) (by omega) (by omega)) dX5_pass_57 ?_
            refine lv_iconst (v := 1) hx hb dX5_pass_58 (by decide) ?_
            refine lv_iadd hx hb dX5_pass_59 ?_
            refine lv_topi (fun v59 ev59 => ?_)
            refine pn_iast (j := 0) hx hb hK hP hN hA hS hL_fv_i hf_fv_i rfl (by omega) (Nat.lt_of_lt_of_le (m := 100) (by omega) (by omega)) dX5_pass_60 (fun H locs hP hS => ?_)
            obtain ⟨f60, ef60⟩ : ∃ z, z = va_up f17 (fv i) (eI g 3 (upd z31 0 v59)) := ⟨_, rfl⟩
            replace hP : PP g L f60 H := by rw [ef60]; exact hP
            replace hFi : Fr f17 f60 [fv i] := hFi.tr (show Fr f17 f60 [fv i] by rw [ef60]; exact Fr.rf.up (by simp)) (by simp)
            have hf_sm : f60 sm = eO 6 [.int (nI d0), .ref sg, .ref sr, .ref ss, .ref sv, .ref sw] := by rw [ef60, va_up_ne _ _ (ne_e hf_sm hf_fv_i (by simp))]; exact hf_sm
            have hf_sg : f60 sg = eI g 12 gl := by rw [ef60, va_up_ne _ _ (ne_e hf_sg hf_fv_i (by simp))]; exact hf_sg
            have hf_sr : f60 sr = eZ g 12 rn := by rw [ef60, va_up_ne _ _ (ne_e hf_sr hf_fv_i (by simp))]; exact hf_sr
            have hf_ss : f60 ss = eR g n (vilR fs n) := by rw [ef60, va_up_ne _ _ (ne_e hf_ss hf_fv_i (by simp))]; exact hf_ss
            have hf_sv : f60 sv = eR g nv (vilR fv nv) := by rw [ef60, va_up_ne _ _ (ne_e hf_sv hf_fv_i (by simp))]; exact hf_sv
            have hf_sw : f60 sw = eR g nv (vilR fw nv) := by rw [ef60, va_up_ne _ _ (ne_e hf_sw hf_fv_i (by simp))]; exact hf_sw
            have hf_fv_i : f60 (fv i) = eI g 3 (upd z31 0 v59) := by rw [ef60]; exact va_up_self _ _ _
            replace hFr : (fun _ : Nat → va_E => True) f60 := by rw [ef60]; exact trivial
            refine lv_aload hx hb dX5_pass_61 (lv_at hl 0 rfl) ?_
            refine lv_iconst (v := 2) hx hb dX5_pass_63 (by decide) ?_
            refine lv_dup2_11 hx hb dX5_pass_64 rfl rfl ?_
            refine pn_iald (j := 2) hx hb hK hP hL_fv_i hf_fv_i rfl (by omega) (Nat.lt_of_lt_of_le (m := 100) (by omega) (by omega)) dX5_pass_65 ?_
            refine lv_iconst (v := 1) hx hb dX5_pass_66 (by decide) ?_
            refine lv_iadd hx hb dX5_pass_67 ?_
            refine lv_topi (fun v67 ev67 => ?_)
            refine pn_iast (j := 2) hx hb hK hP hN hA hS hL_fv_i hf_fv_i rfl (by omega) (Nat.lt_of_lt_of_le (m := 100) (by omega) (by omega)) dX5_pass_68 (fun H locs hP hS => ?_)
            obtain ⟨f68, ef68⟩ : ∃ z, z = va_up f60 (fv i) (eI g 3 (upd (upd z31 0 v59) 2 v67)) := ⟨_, rfl⟩
            replace hP : PP g L f68 H := by rw [ef68]; exact hP
            replace hFi : Fr f17 f68 [fv i] := hFi.tr (show Fr f60 f68 [fv i] by rw [ef68]; exact Fr.rf.up (by simp)) (by simp)
            have hf_sm : f68 sm = eO 6 [.int (nI d0), .ref sg, .ref sr, .ref ss, .ref sv, .ref sw] := by rw [ef68, va_up_ne _ _ (ne_e hf_sm hf_fv_i (by simp))]; exact hf_sm
            have hf_sg : f68 sg = eI g 12 gl := by rw [ef68, va_up_ne _ _ (ne_e hf_sg hf_fv_i (by simp))]; exact hf_sg
            have hf_sr : f68 sr = eZ g 12 rn := by rw [ef68, va_up_ne _ _ (ne_e hf_sr hf_fv_i (by simp))]; exact hf_sr
            have hf_ss : f68 ss = eR g n (vilR fs n) := by rw [ef68, va_up_ne _ _ (ne_e hf_ss hf_fv_i (by simp))]; exact hf_ss
            have hf_sv : f68 sv = eR g nv (vilR fv nv) := by rw [ef68, va_up_ne _ _ (ne_e hf_sv hf_fv_i (by simp))]; exact hf_sv
            have hf_sw : f68 sw = eR g nv (vilR fw nv) := by rw [ef68, va_up_ne _ _ (ne_e hf_sw hf_fv_i (by simp))]; exact hf_sw
            have hf_fv_i : f68 (fv i) = eI g 3 (upd (upd z31 0 v59) 2 v67) := by rw [ef68]; exact va_up_self _ _ _
            replace hFr : (fun _ : Nat → va_E => True) f68 := by rw [ef68]; exact trivial
            obtain ⟨v69, ev69⟩ : ∃ y : Int32, y = acc + 1 := ⟨_, rfl⟩
            refine lv_iinc (v := v69) (lv' := [(2, .int v69), (4, .ref (fv i)), (3, .int (nI i)), (1, .int (rn (d0 % 12))), (0, .ref sm)]) hx hb dX5_pass_69 hl (k := 2) rfl (by rw [ev69]; rfl) (by decide) rfl (fun ls hl => ?_)
            refine lv_goto (tgt := 80) hx hb dX5_pass_72 (by decide) ?_
            refine lv_iinc (v := nI (i + 1)) (lv' := [(3, .int (nI (i + 1))), (2, .int v69), (4, .ref (fv i)), (1, .int (rn (d0 % 12))), (0, .ref sm)]) hx hb dX5_pass_80 hl (k := 2) rfl (nI_1 _) (by decide) rfl (fun ls hl => ?_)
            refine lv_goto (tgt := 17) hx hb dX5_pass_83 (by decide) ?_
            have hh : hitM (fun j => truth (sayB (kd j) (nu j) gl rn d0)) (rbB rn d0) n (vs i) = true := hit_1 hrb c39 c43
            exact ih17 (i + 1) v69 f68 H locs (by omega) (by omega) (sumN_h ha hh ev69) (hSR.fr hFi (fun z => by rw [hb0]; simp)) (hVR.set hIv (by omega) hFi hf_fv_i (row_hit hz31 hh ev59 ev67) (fun j _ hne q _ => by rw [mapV_ne hne])) (hWR.fr hFi (fun z => by rw [hb0]; simp)) hf_sm hf_sg hf_sr hf_ss hf_sv hf_sw hFr hP hS ls (lv_sub hl [0, 1, 3, 4] rfl)
  exact K17 _ 0 0 f _ _ (Nat.lt_succ_self _) (Nat.zero_le _) (rfl) (hSR) (by rw [mapV_0]; exact hVR) (hWR) hf_sm hf_sg hf_sr hf_ss hf_sv hf_sw hFr hP hS ls (lv_sub hl [0, 1, 2, 3] rfl)
