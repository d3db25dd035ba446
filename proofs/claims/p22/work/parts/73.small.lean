/-! ===== small ones: below, cell, some days by hand ===== -/
theorem below_n {v : Int32} {n : Nat} (h0 : 0 < n) (hn : n < 2 ^ 31) : ∃ k, k < n ∧ (v &&& 2147483647) - (v &&& 2147483647) / nI n * nI n = nI k := by
  rw [pk_and v 31 (by decide)]
  have h1 : v.toBitVec.toNat % 2 ^ 31 < 2 ^ 31 := Nat.mod_lt _ (by decide)
  exact ⟨_, Nat.mod_lt _ h0, pk_rem h1 h0 hn⟩
set_option maxHeartbeats 4000000 in
set_option maxRecDepth 100000 in
theorem m_L_below (l : Launch) (g : GG) (f : Nat → va_E) (v : Int32) (n : Nat) (h0 : 0 < n) (hn : n < 2 ^ 31) : RO l g yL_below wsL_below 0 0 [] f [.int v, .int (nI n)] (fun r => ∃ k, k < n ∧ r = nI k) := by
  refine RO.start (cc := cL_below) (maxL := 2) (ret := .int) (by decide +kernel) rfl (by simp [lg_sl, Value.category]) ?_
  intro p e s m args below meth c Q ls hx hb hml hts hown hP hK hl hend
  have hl : lv_has ls 2 [(0, .int v), (1, .int (nI n))] := hl
  refine lv_iload_n hx hb dL_below_0 rfl (lv_at hl 0 rfl) ?_
  refine lv_ldc (v := 2147483647) hx hb hown (hts (.constant RL 7 (2147483647)) (by decide +kernel)) dL_below_1 ?_
  refine lv_iand hx hb dL_below_3 ?_
  refine lv_iload_n hx hb dL_below_4 rfl (lv_at hl 1 rfl) ?_
  refine lv_irem hx hb dL_below_5 (nI_ne0 h0 hn) ?_
  exact hend _ _ _ (below_n h0 hn) rfl dL_below_6
/-- the script, as a call sees it -/
abbrev sp (bs nS : Nat) (xs : Nat → Int32) : State → Prop := fun U => va_X bs nS xs U U.heap ∧ bs < U.heap.size
theorem sp_blind {bs nS : Nat} {xs : Nat → Int32} {As : List Value} : FrameBlind (va_Pc As (sp bs nS xs)) := fun a U gg mk q => ⟨q.1, va_X.moved (u := U) (U := U.calling gg mk a) (Vm.Alike.refl U.vm) q.2.1, q.2.2⟩
abbrev SC (l : Launch) (y : MethodName) (ws : List Cond) (bs nS : Nat) (xs : Nat → Int32) (As : List Value) (post : Int32 → Prop) : Prop := Met l y ws ({ frames := 0, cells := 0, slots := 0, locals := 0 }) (va_Pc As (sp bs nS xs)) (vp_Si post) 0 0 (fun _ => False)
theorem SC.start {l : Launch} {y : MethodName} {ws ws' : List Cond} {bs nS maxL : Nat} {xs : Nat → Int32} {As : List Value} {cc : ByteArray} {post : Int32 → Prop} {ret : FieldType} (hy : plainFor y = true) (hw : ws = Cond.code y cc maxL (some ret) :: ws') (hn : (lg_sl As).length ≤ maxL)
    (body : ∀ (p : Program) (e : Env) (s : State) (m : MethodId) (args : Array Value) (below : List Frame) (meth : Method) (c : Code) (Q : State → Prop) (ls : Array Slot), p.tables.exec = Jvm.exec → c.code = cc → c.maxLocals = maxL → (∀ w ∈ ws, w.before args s = true) → s.vm.findClass y.cls = some m.cls → va_X bs nS xs s s.heap → bs < s.heap.size → lv_has ls maxL (lv_args 0 As) →
      (∀ (v : Int32) (pc : Nat) (ls : Array Slot), post v → narrow ret (.int v) = .int v → decode cc pc = .ok (.ireturn, 1) → W p l e ({ frames := 0, cells := 0, slots := 0, locals := 0 } : Room) s m args below meth c s.heap [] 0 0 Q (F0 m pc ls [.int v])) →
      W p l e ({ frames := 0, cells := 0, slots := 0, locals := 0 } : Room) s m args below meth c s.heap [] 0 0 Q (F0 m 0 ls [])) : SC l y ws bs nS xs As post := by
  refine ofWF (cc := cc) (maxL := maxL) (ret := some ret) hy hw ?_
  intro p e s m args below meth c s₁ B hml hv
  obtain ⟨rfl, hX, hbl⟩ := hv
  have hl := lv_entry As (n := maxL) hn
  rw [lg_entry_eq]
  have hlk := B.notSynchronized
  exact body p e s m _ below meth c _ _ B.exec B.bytes hml (atoms_spec (ws := ws) B.pre) (findClass_of_methodNamed B.named) hX hbl hl (fun v pc ls hp hnr hd => W.zret (ty := ret) B.exec B.bytes B.returns hnr (fun t ht hW => ⟨v, rfl, hp, ht⟩) (fun _ h => absurd h List.not_mem_nil) hd hlk)
set_option maxHeartbeats 4000000 in
set_option maxRecDepth 100000 in
theorem m_L_cell (l : Launch) (bs nS : Nat) (xs : Nat → Int32) (k : Nat) (hk : k < 100) (hnS : nS < 1000) : SC l yL_cell wsL_cell bs nS xs [.ref bs, .int (nI k)] (fun _ => True) := by
  refine SC.start (cc := cL_cell) (maxL := 2) (ret := .int) (by decide +kernel) rfl (by simp [lg_sl, Value.category]) ?_
  intro p e s m args below meth c Q ls hx hb hml hts hown hX hbl hl hend
  have hl : lv_has ls 2 [(0, .ref bs), (1, .int (nI k))] := hl
  have hS : va_S (fun q => s.heap.size ≤ q) s.heap s.heap [] := va_S.rf
  refine lv_iload_n hx hb dL_cell_0 rfl (lv_at hl 1 rfl) ?_
  refine lv_aload_n hx hb dL_cell_1 rfl (lv_at hl 0 rfl) ?_
  refine va_slen hx hb hX hbl (Nat.not_le.mpr hbl) hS dL_cell_2 ?_
  refine lv_icmp_ge (tgt := 12) hx hb dL_cell_3 (by decide) (fun c3 => ?_) (fun c3 => ?_)
  · refine lv_ldc (v := 790386105) hx hb hown (hts (.constant RL 8 (790386105)) (by decide +kernel)) dL_cell_12 ?_
    refine lv_iload_n hx hb dL_cell_14 rfl (lv_at hl 1 rfl) ?_
    refine lv_iconst (v := 3) hx hb dL_cell_15 (by decide) ?_
    refine lv_iadd hx hb dL_cell_16 ?_
    refine lv_imul hx hb dL_cell_17 ?_
    exact hend _ _ _ trivial rfl dL_cell_18
  · have c3 : ¬ nS ≤ k := fun h => c3 (nI_le h (by omega))
    refine lv_aload_n hx hb dL_cell_6 rfl (lv_at hl 0 rfl) ?_
    refine lv_iload_n hx hb dL_cell_7 rfl (lv_at hl 1 rfl) ?_
    refine va_sld hx hb hX hbl (Nat.not_le.mpr hbl) hS (pn_in (i := nI k) (j := k) rfl (by omega) (by omega)).1 dL_cell_8 ?_
    refine lv_goto (tgt := 18) hx hb dL_cell_9 (by decide) ?_
    exact hend _ _ _ trivial rfl dL_cell_18

set_option maxHeartbeats 4000000 in
set_option maxRecDepth 100000 in
theorem m_X5_pass_ (l : Launch) (g : GG) (L : List Nat) (f : Nat → va_E) (sz : Nat) (hN : L.Nodup) (b : SmA) (o : OB) (M k : Nat) (h : SimO b g L f o) (hok : OkO M o) (hM : M + 5 * k < 2 ^ 29) (hk : k < 100) : RW l g yX5_pass_ wsX5_pass_ 3 76 L f sz [.ref b.sm, .int (nI k)] (fun r f2 => r = hitK o k ∧ SimO b g L f2 (itO o k)) := by
  refine RW.start (cc := cX5_pass_) (maxL := 4) (ret := .int) (by decide +kernel) rfl (by simp [lg_sl, Value.category]) ?_
  intro p e s m args below meth c Q ls A hx hb hml hts hown hA hA2 hS hP hK hl hend
  have hl : lv_has ls 4 [(0, .ref b.sm), (1, .int (nI k))] := hl
  refine lv_iconst (v := 0) hx hb dX5_pass__0 (by decide) ?_
  refine lv_istore_n (lv' := [(2, .int 0), (0, .ref b.sm), (1, .int (nI k))]) hx hb dX5_pass__1 rfl hl (by decide) rfl (fun ls hl => ?_)
  refine lv_iconst (v := 0) hx hb dX5_pass__2 (by decide) ?_
  refine lv_istore_n (lv' := [(3, .int 0), (2, .int 0), (0, .ref b.sm), (1, .int (nI k))]) hx hb dX5_pass__3 rfl hl (by decide) rfl (fun ls hl => ?_)
  have KL : ∀ (n i : Nat) (f2 : Nat → va_E) (H : Heap) (locs : List Loc) (acc : Int32), k - i < n → i ≤ k → acc = hitK o i → SimO b g L f2 (itO o i) → PP g L f2 H → va_S A s.heap H locs → ∀ (ls : Array Slot), lv_has ls 4 [(3, .int (nI i)), (2, .int acc), (0, .ref b.sm), (1, .int (nI k))] → W p l e ({ frames := 3, cells := 0, slots := 0, locals := 76 } : Room) s m args below meth c H locs 0 0 Q (F0 m 4 ls []) := by
    intro n
    induction n with
    | zero => intros; omega
    | succ n ih =>
      intro i f2 H locs acc hm hi ha hMs hP hS ls hl
      refine lv_iload_n hx hb dX5_pass__4 rfl (lv_at hl 0 rfl) ?_
      refine lv_iload_n hx hb dX5_pass__5 rfl (lv_at hl 3 rfl) ?_
      refine lv_icmp_ge (tgt := 22) hx hb dX5_pass__6 (by decide) (fun c6 => ?_) (fun c6 => ?_)
      · have c6 : k ≤ i := (nI_leI (by omega) (by omega)).mp c6
        obtain rfl : i = k := by omega
        refine lv_iload_n hx hb dX5_pass__22 rfl (lv_at hl 1 rfl) ?_
        exact hend acc f2 _ _ _ _ ⟨ha, hMs⟩ hP hS rfl dX5_pass__23
      · have c6 : i < k := Nat.lt_of_not_le (fun z => c6 (nI_le z (by omega)))
        have hok2 := hok.it i (by omega)
        have hd2 := hok2.hd
        refine lv_iload_n hx hb dX5_pass__9 rfl (lv_at hl 1 rfl) ?_
        refine lv_aload_n hx hb dX5_pass__10 rfl (lv_at hl 2 rfl) ?_
        refine rw_V (As := []) (rest := [.int acc]) ⟨hx, hb, hml, hown, hts⟩ (m_X5_pass l g L f2 H.size hN b.sm b.sg b.sr b.ss b.sv b.sw (itO o i).d (itO o i).n (itO o i).nv b.fs b.fv b.fw (itO o i).gl (itO o i).rn (itO o i).kd (itO o i).nu (itO o i).vs hMs.L_sm hMs.f_sm hMs.L_sg hMs.f_sg hMs.L_sr hMs.f_sr hMs.L_ss hMs.f_ss hMs.L_sv hMs.f_sv hMs.L_sw hMs.f_sw hok2.hn hok2.hnv hok2.hrn hok2.hnu hok2.hgl hMs.hSR hMs.hVR hMs.hWR hMs.hIv hMs.hIw (by omega)) (cwV 0 hts gX5_pass__X5_pass rfl rfl rfl (by decide +kernel) ⟨Nat.le_of_ble_eq_true rfl, Nat.le_of_ble_eq_true rfl⟩) hK hP hA hA2 hS hMs.L_sm hMs.f_sm rfl rfl hl.1 rfl (Nat.le_of_ble_eq_true rfl) dX5_pass__11 ⟨Nat.zero_le _, Nat.zero_le _⟩ (fun r f3 H locs hr hP hS => ?_)
        obtain ⟨rfl, hM3⟩ := sim_day hMs hok2 (by omega) hr
        refine lv_iadd hx hb dX5_pass__14 ?_
        refine lv_istore_n (lv' := [(2, .int (acc + hitsO (itO o i))), (3, .int (nI i)), (0, .ref b.sm), (1, .int (nI k))]) hx hb dX5_pass__15 rfl hl (by decide) rfl (fun ls hl => ?_)
        refine lv_iinc (v := nI (i + 1)) (lv' := [(3, .int (nI (i + 1))), (2, .int (acc + hitsO (itO o i))), (0, .ref b.sm), (1, .int (nI k))]) hx hb dX5_pass__16 hl (k := 1) rfl (nI_1 _) (by decide) rfl (fun ls hl => ?_)
        refine lv_goto (tgt := 4) hx hb dX5_pass__19 (by decide) ?_
        exact ih (i + 1) f3 H locs _ (by omega) (by omega) (sumN_e ha rfl rfl) hM3 hP hS ls hl
  exact KL (k + 1) 0 f _ _ 0 (by omega) (Nat.zero_le _) rfl h hP hS ls hl
