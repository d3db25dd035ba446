/-! ===== isSame, in pieces ===== -/
theorem dec_1 {x : Int32} : x + Int32.ofInt (-1) = x - 1 := by rw [Int32.sub_eq_add_neg]; rfl
section RG
variable {p : Program} {l : Launch} {e : Env} {R : Room} {s : State} {m : MethodId} {args : Array Value} {below : List Frame} {meth : Method} {c : Code} {H : Heap} {locs : List Loc} {cells slots : Nat} {Q : State → Prop}
variable {cc : ByteArray} {pc : Nat} {ls : Array Slot} {rest : List Value}
theorem r_gt01 (hx : p.tables.exec = Jvm.exec) (hb : c.code = cc) {x : Int32} (d0 : decode cc pc = .ok (.ifCond .le 7, 3)) (d1 : decode cc (pc + 3) = .ok (.iconst 1, 1)) (d2 : decode cc (pc + 4) = .ok (.goto 4, 3)) (d3 : decode cc (pc + 7) = .ok (.iconst 0, 1))
    (kk : W p l e R s m args below meth c H locs cells slots Q (F0 m (pc + 8) ls (.int (b2i (decide (0 < x))) :: rest))) : W p l e R s m args below meth c H locs cells slots Q (F0 m pc ls (.int x :: rest)) := by
  refine lv_if_le (tgt := pc + 7) hx hb d0 (by omega) (fun h9 => ?_) (fun h9 => ?_)
  · rw [decide_eq_false (Int32.not_lt.mpr h9)] at kk
    exact lv_iconst (v := 0) hx hb d3 (by decide) kk
  · rw [decide_eq_true (Int32.not_le.mp h9)] at kk
    refine lv_iconst (v := 1) hx hb d1 (by decide) ?_
    exact lv_goto (tgt := pc + 8) hx hb d2 (by omega) kk
end RG
theorem Fst_top {o : OB} {j : Nat} : Fst o j (j + 1) j := ⟨Nat.le_refl _, by omega, fun q h1 h2 => by rw [show q = j by omega]; exact Nat.le_refl _, fun q h1 h2 => by omega⟩
theorem Fst_keep {o : OB} {j n i : Nat} (h : Fst o (j + 1) n i) (hr : rtO o j < rtO o i) : Fst o j n i := by
  obtain ⟨h1, h2, h3, h4⟩ := h
  refine ⟨by omega, h2, fun q a1 a2 => ?_, fun q a1 a2 => ?_⟩
  · by_cases e : q = j
    · subst e; omega
    · exact h3 q (by omega) a2
  · by_cases e : q = j
    · subst e; exact hr
    · exact h4 q (by omega) a2
theorem Fst_new {o : OB} {j n i : Nat} (h : Fst o (j + 1) n i) (hr : ¬ rtO o j < rtO o i) : Fst o j n j := by
  obtain ⟨h1, h2, h3, h4⟩ := h
  refine ⟨Nat.le_refl _, by omega, fun q a1 a2 => ?_, fun q a1 a2 => by omega⟩
  by_cases e : q = j
  · subst e; exact Nat.le_refl _
  · have := h3 q (by omega) a2; omega
def BestK (o : OB) (k : Nat) (bv : Int32) : Prop := (k = o.n ∧ bv = -1) ∨ ∃ i, Fst o k o.n i ∧ bv = nI i
theorem best_down {o : OB} {bv : Int32} (h : BestK o 0 bv) : bv = bestO o := by
  rcases h with ⟨h1, rfl⟩ | ⟨i, h1, rfl⟩
  · rcases bestO_n o with ⟨_, e⟩ | ⟨i, h2, _⟩
    · exact e.symm
    · have := h2.2.1; omega
  · rcases bestO_n o with ⟨e, _⟩ | ⟨j, h2, e⟩
    · have := h1.2.1; omega
    · rw [e, h1.uniq h2]
set_option maxHeartbeats 8000000 in
set_option maxRecDepth 100000 in
theorem is_1 {p : Program} {l : Launch} {e : Env} {s : State} {m : MethodId} {args : Array Value} {below : List Frame} {meth : Method} {c : Code} {Q : State → Prop} {g : GG} {t lo : Nat} {L0 : List Nat} {b : SmA} {o : OB} {M cells slots : Nat} {H : Heap} {locs : List Loc} {ls : Array Slot}  (C : LK p l s m args c cX5_isSame 10 wsX5_isSame RX5 g t L0) (hok : OkO M o) (hM : M + 300 < 2 ^ 29) (hW : WD g t lo b o o [] (fun _ => eO 0 []) (AA L0 s.heap.size) s.heap H locs) (hl : lv_has ls 10 [(0, .ref b.sm), (1, .ref lo)])  (hc : cells + 10 ≤ 400) (hs : slots + 110 ≤ 3000) (kk : ∀ (H : Heap) (locs : List Loc) (ls : Array Slot), WD g t lo b o o [] (fun _ => eO 0 []) (AA L0 s.heap.size) s.heap H locs → lv_has ls 10 [(0, .ref b.sm), (1, .ref lo)] → W p l e ({ frames := 9, cells := 400, slots := 3000, locals := 200 } : Room) s m args below meth c H locs (cells + 10) (slots + 110) Q (F0 m 32 ls [])) : W p l e ({ frames := 9, cells := 400, slots := 3000, locals := 200 } : Room) s m args below meth c H locs cells slots Q (F0 m 0 ls []) := by
  obtain ⟨hx, hb, hml, hts, hown, hK, hZ, hDS, hst⟩ := C
  have hi_X5 : ∀ w ∈ u_ws RX5 TX5 6, w ∈ wsX5_isSame := by decide +kernel
  have hn := hok.hn
  have hnv := hok.hnv
  have hd := hok.hd
  refine lv_aload_n hx hb dX5_isSame_0 rfl (lv_at hl 0 rfl) ?_
  refine u_counts ⟨hx, hb, hml, hown, hts⟩ hK hDS hW hok (by omega) (cwV 0 hts gX5_isSame_X5_counts rfl rfl rfl (by decide +kernel) ⟨Nat.le_of_ble_eq_true rfl, Nat.le_of_ble_eq_true rfl⟩) hl.1 (Nat.le_of_ble_eq_true rfl) dX5_isSame_1 ⟨by show _ ≤ 400; omega, by show _ ≤ 3000; omega⟩ (fun q1 z1 H locs hz1 hW => ?_)
  have hL_q1 : q1 ∈ [q1] := List.mem_cons_self
  obtain ⟨fw1, efw1⟩ : ∃ z : Nat → va_E, z = fun _ => eI g 7 z1 := ⟨_, rfl⟩
  rw [← efw1] at hW
  have hf_q1 : fw1 q1 = eI g 7 z1 := by rw [efw1]
  refine lv_astore_n (lv' := [(2, .ref q1), (0, .ref b.sm), (1, .ref lo)]) hx hb dX5_isSame_4 rfl hl (by decide) rfl (fun ls hl => ?_)
  refine lv_iconst (v := 0) hx hb dX5_isSame_5 (by decide) ?_
  refine lv_istore_n (lv' := [(3, .int 0), (2, .ref q1), (0, .ref b.sm), (1, .ref lo)]) hx hb dX5_isSame_6 rfl hl (by decide) rfl (fun ls hl => ?_)
  have K7 : ∀ (n7 : Nat) (k : Nat) (H : Heap) (locs : List Loc), 7 - k < n7 → k ≤ 7 → WD g t lo b o o [q1] fw1 (AA L0 s.heap.size) s.heap H locs → ∀ (ls : Array Slot), lv_has ls 10 [(3, .int (nI k)), (2, .ref q1), (0, .ref b.sm), (1, .ref lo)] → W p l e ({ frames := 9, cells := 400, slots := 3000, locals := 200 } : Room) s m args below meth c H locs (cells + 1 + k) (slots + 60 + 6 * k) Q (F0 m 7 ls []) := by
    intro n7
    induction n7 with
    | zero => intros; omega
    | succ n7 ih7 =>
      intro k H locs hm7 hk hW ls hl
      refine lv_iload_n hx hb dX5_isSame_7 rfl (lv_at hl 0 rfl) ?_
      refine lv_bipush (v := 7) hx hb dX5_isSame_8 (by decide) ?_
      refine lv_icmp_ge (tgt := 32) hx hb dX5_isSame_10 (by decide) (fun c10 => ?_) (fun c10 => ?_)
      · skip
        have c10 : 7 ≤ k := (nI_leI (a := 7) (b := k) (by omega) (by omega)).mp (show nI 7 ≤ nI k from c10)
        exact W.widen (by omega) (by omega) (kk H locs ls (hW.drop) (lv_sub hl [2, 3] rfl))
      · skip
        have c10 : ¬ 7 ≤ k := fun h => c10 ((nI_leI (a := 7) (b := k) (by omega) (by omega)).mpr h)
        refine lv_aload_n hx hb dX5_isSame_13 rfl (lv_at hl 3 rfl) ?_
        refine lv_iload_n hx hb dX5_isSame_14 rfl (lv_at hl 0 rfl) ?_
        refine u_count ⟨hx, hb, hml, hown, hts⟩ hst hK hZ hW hok (by omega) (k := k) (by omega) (cwV 1 hts gX5_isSame_X4_count rfl rfl rfl (by decide +kernel) ⟨Nat.le_of_ble_eq_true rfl, Nat.le_of_ble_eq_true rfl⟩) hl.1 (Nat.le_of_ble_eq_true rfl) dX5_isSame_15 ⟨by show _ ≤ 400; omega, by show _ ≤ 3000; omega⟩ (fun H locs hW => ?_)
        refine lv_aload_n hx hb dX5_isSame_18 rfl (lv_at hl 1 rfl) ?_
        refine lv_iload_n hx hb dX5_isSame_19 rfl (lv_at hl 0 rfl) ?_
        refine pn_iald (j := k) hx hb hK hW.G.Pw hL_q1 hf_q1 rfl (by omega) (by omega) dX5_isSame_20 ?_
        rw [hz1 k (by omega)]
        refine lv_icmp_eq (tgt := 26) hx hb dX5_isSame_21 (by decide) (fun _ => ?_) (fun h => absurd rfl h)
        refine lv_iinc (v := nI (k + 1)) (lv' := [(3, .int (nI (k + 1))), (2, .ref q1), (0, .ref b.sm), (1, .ref lo)]) hx hb dX5_isSame_26 hl (k := 0) rfl (nI_1 _) (by decide) rfl (fun ls hl => ?_)
        refine lv_goto (tgt := 7) hx hb dX5_isSame_29 (by decide) ?_
        refine W.widen (by omega) (by omega) (ih7 (k + 1) H locs (by omega) (by omega) (hW) ls (lv_sub hl [0, 1, 2, 3] rfl))
  refine W.widen (by omega) (by omega) (K7 _ 0 H locs (Nat.lt_succ_self _) (by omega) (hW) ls (lv_sub hl [0, 1, 2, 3] rfl))
set_option maxHeartbeats 8000000 in
set_option maxRecDepth 100000 in
theorem is_2 {p : Program} {l : Launch} {e : Env} {s : State} {m : MethodId} {args : Array Value} {below : List Frame} {meth : Method} {c : Code} {Q : State → Prop} {g : GG} {t lo : Nat} {L0 : List Nat} {b : SmA} {o : OB} {M cells slots : Nat} {H : Heap} {locs : List Loc} {ls : Array Slot}  (C : LK p l s m args c cX5_isSame 10 wsX5_isSame RX5 g t L0) (hok : OkO M o) (hM : M + 300 < 2 ^ 29) (hW : WD g t lo b o o [] (fun _ => eO 0 []) (AA L0 s.heap.size) s.heap H locs) (hl : lv_has ls 10 [(0, .ref b.sm), (1, .ref lo)])  (hc : cells + 96 ≤ 400) (hs : slots + 528 ≤ 3000) (kk : ∀ (H : Heap) (locs : List Loc) (ls : Array Slot), WD g t lo b o o [] (fun _ => eO 0 []) (AA L0 s.heap.size) s.heap H locs → lv_has ls 10 [(3, .int (bestO o)), (0, .ref b.sm), (1, .ref lo)] → W p l e ({ frames := 9, cells := 400, slots := 3000, locals := 200 } : Room) s m args below meth c H locs (cells + 96) (slots + 528) Q (F0 m 231 ls [])) : W p l e ({ frames := 9, cells := 400, slots := 3000, locals := 200 } : Room) s m args below meth c H locs cells slots Q (F0 m 32 ls []) := by
  obtain ⟨hx, hb, hml, hts, hown, hK, hZ, hDS, hst⟩ := C
  have hi_X5 : ∀ w ∈ u_ws RX5 TX5 6, w ∈ wsX5_isSame := by decide +kernel
  have hn := hok.hn
  have hnv := hok.hnv
  have hd := hok.hd
  refine lv_iconst (v := (-1)) hx hb dX5_isSame_32 (by decide) ?_
  refine lv_istore_n (lv' := [(3, .int (-1)), (0, .ref b.sm), (1, .ref lo)]) hx hb dX5_isSame_33 rfl hl (by decide) rfl (fun ls hl => ?_)
  refine lv_aload_n hx hb dX5_isSame_34 rfl (lv_at hl 1 rfl) ?_
  obtain ⟨Ls9, fs9, hM9, hPs9⟩ := hW.sim
  refine pg_get (C := RX5) (T := TX5) (N := 6) hx hb hts hi_X5 hown hK hPs9 hM9.1 hM9.2.1 rfl 3 (by decide) (hts (.fieldLink RX5 18 "BarometerLeagueLaw$Sim" "signs" "[[I") (by decide +kernel)) (fun _ h9 => h9) rfl dX5_isSame_35 ?_
  obtain ⟨Ls9, fs9, hM9, hPs9⟩ := hW.sim
  refine pg_alen hx hb hK hPs9 hM9.L_ss hM9.f_ss 4 rfl (v := nI o.n) rfl dX5_isSame_38 ?_
  refine lv_iconst (v := 1) hx hb dX5_isSame_39 (by decide) ?_
  refine lv_isub hx hb dX5_isSame_40 ?_
  refine lv_topi (fun v40 ev40 => ?_)
  rw [show v40 = nI o.n - 1 from ev40]
  refine lv_istore (lv' := [(4, .int (nI o.n - 1)), (3, .int (-1)), (0, .ref b.sm), (1, .ref lo)]) hx hb dX5_isSame_41 hl (by decide) rfl (fun ls hl => ?_)
  have K43 : ∀ (n43 : Nat) (k : Nat) (bv : Int32) (H : Heap) (locs : List Loc), k < n43 → k ≤ o.n → BestK o k bv → WD g t lo b o o [] (fun _ => eO 0 []) (AA L0 s.heap.size) s.heap H locs → ∀ (ls : Array Slot), lv_has ls 10 [(4, .int (nI k - 1)), (3, .int bv), (0, .ref b.sm), (1, .ref lo)] → W p l e ({ frames := 9, cells := 400, slots := 3000, locals := 200 } : Room) s m args below meth c H locs (cells + 12 * (o.n - k)) (slots + 66 * (o.n - k)) Q (F0 m 43 ls []) := by
    intro n43
    induction n43 with
    | zero => intros; omega
    | succ n43 ih43 =>
      intro k bv H locs hm43 hk hbk hW ls hl
      rcases Nat.eq_zero_or_pos k with rfl | hk0
      · refine lv_iload hx hb dX5_isSame_43 (lv_at hl 0 rfl) ?_
        refine lv_if_lt (tgt := 231) hx hb dX5_isSame_45 (by decide) (fun _ => ?_) (fun h => absurd (by decide) h)
        rw [best_down hbk] at hl
        exact W.widen (by omega) (by omega) (kk H locs ls (hW.drop) (lv_sub hl [1, 2, 3] rfl))
      · obtain ⟨j, rfl⟩ : ∃ j, k = j + 1 := ⟨k - 1, by omega⟩
        rw [show nI (j + 1) - 1 = nI j from pk_sub (a := j + 1) (b := 1) (by omega)] at hl
        refine lv_iload hx hb dX5_isSame_43 (lv_at hl 0 rfl) ?_
        refine lv_if_lt (tgt := 231) hx hb dX5_isSame_45 (by decide) (fun c45 => by exfalso; have c45 := (nI_ltI (a := j) (b := 0) (by omega) (by omega)).mp (show nI j < nI 0 from c45); omega) (fun c45 => ?_)
        have c45 : ¬ j < 0 := fun h => c45 ((nI_ltI (a := j) (b := 0) (by omega) (by omega)).mpr h)
        refine lv_iconst (v := 0) hx hb dX5_isSame_48 (by decide) ?_
        refine lv_istore (lv' := [(5, .int 0), (4, .int (nI j)), (3, .int bv), (0, .ref b.sm), (1, .ref lo)]) hx hb dX5_isSame_49 hl (by decide) rfl (fun ls hl => ?_)
        refine lv_aload_n hx hb dX5_isSame_51 rfl (lv_at hl 3 rfl) ?_
        obtain ⟨Ls9, fs9, hM9, hPs9⟩ := hW.sim
        refine pg_get (C := RX5) (T := TX5) (N := 6) hx hb hts hi_X5 hown hK hPs9 hM9.1 hM9.2.1 rfl 5 (by decide) (hts (.fieldLink RX5 25 "BarometerLeagueLaw$Sim" "weights" "[[I") (by decide +kernel)) (fun _ h9 => h9) rfl dX5_isSame_52 ?_
        refine lv_astore (lv' := [(6, .ref b.sw), (5, .int 0), (4, .int (nI j)), (3, .int bv), (0, .ref b.sm), (1, .ref lo)]) hx hb dX5_isSame_55 hl (by decide) rfl (fun ls hl => ?_)
        refine lv_aload hx hb dX5_isSame_57 (lv_at hl 0 rfl) ?_
        obtain ⟨Ls9, fs9, hM9, hPs9⟩ := hW.sim
        refine pg_alen hx hb hK hPs9 hM9.L_sw hM9.f_sw 4 rfl (v := nI o.nv) rfl dX5_isSame_59 ?_
        refine lv_istore (lv' := [(7, .int (nI o.nv)), (6, .ref b.sw), (5, .int 0), (4, .int (nI j)), (3, .int bv), (0, .ref b.sm), (1, .ref lo)]) hx hb dX5_isSame_60 hl (by decide) rfl (fun ls hl => ?_)
        refine lv_iconst (v := 0) hx hb dX5_isSame_62 (by decide) ?_
        refine lv_istore (lv' := [(8, .int 0), (7, .int (nI o.nv)), (6, .ref b.sw), (5, .int 0), (4, .int (nI j)), (3, .int bv), (0, .ref b.sm), (1, .ref lo)]) hx hb dX5_isSame_63 hl (by decide) rfl (fun ls hl => ?_)
        have K65 : ∀ (n65 : Nat) (v : Nat) (acc : Int32) (H : Heap) (locs : List Loc), o.nv - v < n65 → v ≤ o.nv → acc = sumN (fun u => (o.vs u).2.2.2.2 j) v → WD g t lo b o o [] (fun _ => eO 0 []) (AA L0 s.heap.size) s.heap H locs → ∀ (ls : Array Slot), lv_has ls 10 [(8, .int (nI v)), (5, .int acc), (7, .int (nI o.nv)), (6, .ref b.sw), (4, .int (nI j)), (3, .int bv), (0, .ref b.sm), (1, .ref lo)] → W p l e ({ frames := 9, cells := 400, slots := 3000, locals := 200 } : Room) s m args below meth c H locs (cells + 12 * (o.n - (j + 1))) (slots + 66 * (o.n - (j + 1))) Q (F0 m 65 ls []) := by
          intro n65
          induction n65 with
          | zero => intros; omega
          | succ n65 ih65 =>
            intro v acc H locs hm65 hv hacc hW ls hl
            refine lv_iload hx hb dX5_isSame_65 (lv_at hl 0 rfl) ?_
            refine lv_iload hx hb dX5_isSame_67 (lv_at hl 2 rfl) ?_
            refine lv_icmp_ge (tgt := 95) hx hb dX5_isSame_69 (by decide) (fun c69 => ?_) (fun c69 => ?_)
            · skip
              have c69 : o.nv ≤ v := (nI_leI (a := o.nv) (b := v) (by omega) (by omega)).mp (show nI o.nv ≤ nI v from c69)
              rw [show v = o.nv by omega] at hacc
              refine lv_iconst (v := 4) hx hb dX5_isSame_95 (by decide) ?_
              refine w_newI hx hb (hts (.arrayClass .int) (by decide +kernel)) hK (fun _ h => Or.inr h) hW.G (k := 4) rfl (by omega) (by show _ ≤ 400; omega) (by show _ ≤ 3000; omega) dX5_isSame_96 (fun q96 H hq96 hW => ?_)
              obtain ⟨fwq96, efwq96⟩ : ∃ z, z = va_up (fun _ => eO 0 []) q96 (eI g 4 (fun _ => 0)) := ⟨_, rfl⟩
              rw [← efwq96] at hW
              have hf_q96 : fwq96 q96 = eI g 4 (fun _ => 0) := by rw [efwq96]; exact va_up_self _ _ _
              have hL_q96 : q96 ∈ (q96 :: []) := List.mem_cons_self
              replace hW := WDG.O hW
              refine lv_dup hx hb dX5_isSame_98 rfl ?_
              refine lv_iconst (v := 0) hx hb dX5_isSame_99 (by decide) ?_
              refine lv_aload_n hx hb dX5_isSame_100 rfl (lv_at hl 6 rfl) ?_
              obtain ⟨Ls9, fs9, hM9, hPs9⟩ := hW.sim
              refine pg_get (C := RX5) (T := TX5) (N := 6) hx hb hts hi_X5 hown hK hPs9 hM9.1 hM9.2.1 rfl 3 (by decide) (hts (.fieldLink RX5 18 "BarometerLeagueLaw$Sim" "signs" "[[I") (by decide +kernel)) (fun _ h9 => h9) rfl dX5_isSame_101 ?_
              refine lv_iload hx hb dX5_isSame_104 (lv_at hl 4 rfl) ?_
              obtain ⟨Ls9, fs9, hM9, hPs9⟩ := hW.sim
              refine pn_rald (n := o.n) (j := j) hx hb hK hPs9 hM9.L_ss hM9.f_ss rfl (by omega) (by omega) (vilR_at (show j < o.n by omega)) dX5_isSame_106 ?_
              refine lv_iconst (v := 0) hx hb dX5_isSame_107 (by decide) ?_
              obtain ⟨Ls9, fs9, hM9, hPs9⟩ := hW.sim
              obtain ⟨hLr9, z9, hfr9, hz9⟩ := hM9.hSR j (show j < o.n by omega)
              refine pn_iald (j := 0) hx hb hK hPs9 hLr9 hfr9 rfl (by omega) (by omega) dX5_isSame_108 ?_
              rw [show z9 0 = o.kd j from hz9 0 (by omega)]
              refine w_iast hx hb hK hW.G hL_q96 hf_q96 (j := 0) rfl (by omega) (by omega) dX5_isSame_109 (fun H locs hW => ?_)
              obtain ⟨fw109, efw109⟩ : ∃ z, z = va_up fwq96 q96 (eI g 4 (upd (fun _ => 0) 0 (o.kd j))) := ⟨_, rfl⟩
              rw [← efw109] at hW
              have hf_q96 : fw109 q96 = eI g 4 (upd (fun _ => 0) 0 (o.kd j)) := by rw [efw109]; exact va_up_self _ _ _
              replace hW := WDG.O hW
              refine lv_dup hx hb dX5_isSame_110 rfl ?_
              refine lv_iconst (v := 1) hx hb dX5_isSame_111 (by decide) ?_
              refine lv_aload_n hx hb dX5_isSame_112 rfl (lv_at hl 6 rfl) ?_
              obtain ⟨Ls9, fs9, hM9, hPs9⟩ := hW.sim
              refine pg_get (C := RX5) (T := TX5) (N := 6) hx hb hts hi_X5 hown hK hPs9 hM9.1 hM9.2.1 rfl 3 (by decide) (hts (.fieldLink RX5 18 "BarometerLeagueLaw$Sim" "signs" "[[I") (by decide +kernel)) (fun _ h9 => h9) rfl dX5_isSame_113 ?_
              refine lv_iload hx hb dX5_isSame_116 (lv_at hl 4 rfl) ?_
              obtain ⟨Ls9, fs9, hM9, hPs9⟩ := hW.sim
              refine pn_rald (n := o.n) (j := j) hx hb hK hPs9 hM9.L_ss hM9.f_ss rfl (by omega) (by omega) (vilR_at (show j < o.n by omega)) dX5_isSame_118 ?_
              refine lv_iconst (v := 1) hx hb dX5_isSame_119 (by decide) ?_
              obtain ⟨Ls9, fs9, hM9, hPs9⟩ := hW.sim
              obtain ⟨hLr9, z9, hfr9, hz9⟩ := hM9.hSR j (show j < o.n by omega)
              refine pn_iald (j := 1) hx hb hK hPs9 hLr9 hfr9 rfl (by omega) (by omega) dX5_isSame_120 ?_
              rw [show z9 1 = o.nu j from hz9 1 (by omega)]
              refine w_iast hx hb hK hW.G hL_q96 hf_q96 (j := 1) rfl (by omega) (by omega) dX5_isSame_121 (fun H locs hW => ?_)
              obtain ⟨fw121, efw121⟩ : ∃ z, z = va_up fw109 q96 (eI g 4 (upd (upd (fun _ => 0) 0 (o.kd j)) 1 (o.nu j))) := ⟨_, rfl⟩
              rw [← efw121] at hW
              have hf_q96 : fw121 q96 = eI g 4 (upd (upd (fun _ => 0) 0 (o.kd j)) 1 (o.nu j)) := by rw [efw121]; exact va_up_self _ _ _
              replace hW := WDG.O hW
              refine lv_dup hx hb dX5_isSame_122 rfl ?_
              refine lv_iconst (v := 2) hx hb dX5_isSame_123 (by decide) ?_
              refine lv_aload_n hx hb dX5_isSame_124 rfl (lv_at hl 6 rfl) ?_
              refine lv_iload hx hb dX5_isSame_125 (lv_at hl 4 rfl) ?_
              refine u_sright ⟨hx, hb, hml, hown, hts⟩ hK hW hok (by omega) (j := j) (by omega) (cwV 1 hts gX5_isSame_X5_right rfl rfl rfl (by decide +kernel) ⟨Nat.le_of_ble_eq_true rfl, Nat.le_of_ble_eq_true rfl⟩) hl.1 (Nat.le_of_ble_eq_true rfl) dX5_isSame_127 ⟨by show _ ≤ 400; omega, by show _ ≤ 3000; omega⟩  ?_
              refine w_iast hx hb hK hW.G hL_q96 hf_q96 (j := 2) rfl (by omega) (by omega) dX5_isSame_130 (fun H locs hW => ?_)
              obtain ⟨fw130, efw130⟩ : ∃ z, z = va_up fw121 q96 (eI g 4 (upd (upd (upd (fun _ => 0) 0 (o.kd j)) 1 (o.nu j)) 2 (rightO o j))) := ⟨_, rfl⟩
              rw [← efw130] at hW
              have hf_q96 : fw130 q96 = eI g 4 (upd (upd (upd (fun _ => 0) 0 (o.kd j)) 1 (o.nu j)) 2 (rightO o j)) := by rw [efw130]; exact va_up_self _ _ _
              replace hW := WDG.O hW
              refine lv_dup hx hb dX5_isSame_131 rfl ?_
              refine lv_iconst (v := 3) hx hb dX5_isSame_132 (by decide) ?_
              refine lv_iload hx hb dX5_isSame_133 (lv_at hl 1 rfl) ?_
              refine w_iast hx hb hK hW.G hL_q96 hf_q96 (j := 3) rfl (by omega) (by omega) dX5_isSame_135 (fun H locs hW => ?_)
              obtain ⟨fw135, efw135⟩ : ∃ z, z = va_up fw130 q96 (eI g 4 (upd (upd (upd (upd (fun _ => 0) 0 (o.kd j)) 1 (o.nu j)) 2 (rightO o j)) 3 acc)) := ⟨_, rfl⟩
              rw [← efw135] at hW
              have hf_q96 : fw135 q96 = eI g 4 (upd (upd (upd (upd (fun _ => 0) 0 (o.kd j)) 1 (o.nu j)) 2 (rightO o j)) 3 acc) := by rw [efw135]; exact va_up_self _ _ _
              replace hW := WDG.O hW
              refine lv_astore (lv' := [(6, .ref q96), (8, .int (nI v)), (5, .int acc), (7, .int (nI o.nv)), (4, .int (nI j)), (3, .int bv), (0, .ref b.sm), (1, .ref lo)]) hx hb dX5_isSame_136 hl (by decide) rfl (fun ls hl => ?_)
              have hz96 : ∀ i, i < 4 → (upd (upd (upd (upd (fun _ => 0) 0 (o.kd j)) 1 (o.nu j)) 2 (rightO o j)) 3 acc) i = toldO o j i := fun i hi => by rcases (show i = 0 ∨ i = 1 ∨ i = 2 ∨ i = 3 by omega) with rfl | rfl | rfl | rfl; rfl; rfl; rfl; exact hacc
              refine lv_iconst (v := 0) hx hb dX5_isSame_138 (by decide) ?_
              refine lv_istore (lv' := [(7, .int 0), (6, .ref q96), (8, .int (nI v)), (5, .int acc), (4, .int (nI j)), (3, .int bv), (0, .ref b.sm), (1, .ref lo)]) hx hb dX5_isSame_139 hl (by decide) rfl (fun ls hl => ?_)
              have K141 : ∀ (n141 : Nat) (i : Nat) (H : Heap) (locs : List Loc), 4 - i < n141 → i ≤ 4 → WD g t lo b o o (q96 :: []) fw135 (AA L0 s.heap.size) s.heap H locs → ∀ (ls : Array Slot), lv_has ls 10 [(7, .int (nI i)), (6, .ref q96), (4, .int (nI j)), (3, .int bv), (0, .ref b.sm), (1, .ref lo)] → W p l e ({ frames := 9, cells := 400, slots := 3000, locals := 200 } : Room) s m args below meth c H locs (cells + 12 * (o.n - (j + 1)) + 1 + 2 * i) (slots + 66 * (o.n - (j + 1)) + 4 + 12 * i) Q (F0 m 141 ls []) := by
                intro n141
                induction n141 with
                | zero => intros; omega
                | succ n141 ih141 =>
                  intro i H locs hm141 hi hW ls hl
                  refine lv_iload hx hb dX5_isSame_141 (lv_at hl 0 rfl) ?_
                  refine lv_iconst (v := 4) hx hb dX5_isSame_143 (by decide) ?_
                  refine lv_icmp_ge (tgt := 171) hx hb dX5_isSame_144 (by decide) (fun c144 => ?_) (fun c144 => ?_)
                  · skip
                    have c144 : 4 ≤ i := (nI_leI (a := 4) (b := i) (by omega) (by omega)).mp (show nI 4 ≤ nI i from c144)
                    refine lv_aload_n hx hb dX5_isSame_171 rfl (lv_at hl 5 rfl) ?_
                    refine lv_iload hx hb dX5_isSame_172 (lv_at hl 2 rfl) ?_
                    refine lv_aload_n hx hb dX5_isSame_174 rfl (lv_at hl 4 rfl) ?_
                    obtain ⟨Ls9, fs9, hM9, hPs9⟩ := hW.sim
                    refine pg_get (C := RX5) (T := TX5) (N := 6) hx hb hts hi_X5 hown hK hPs9 hM9.1 hM9.2.1 rfl 0 (by decide) (hts (.fieldLink RX5 28 "BarometerLeagueLaw$Sim" "day" "I") (by decide +kernel)) (fun _ h9 => h9) rfl dX5_isSame_175 ?_
                    refine lv_sipush (v := 1000) hx hb dX5_isSame_178 (by decide) ?_
                    refine lv_irem hx hb dX5_isSame_181 (by decide) ?_
                    refine lv_topi (fun v181 ev181 => ?_)
                    rw [show v181 = nI (o.d % 1000) from (ev181.trans (pk_rem (a := o.d) (d := 1000) (by omega) (by decide) (by decide)))]
                    refine u_says ⟨hx, hb, hml, hown, hts⟩ hst hK hZ hW hok (by omega) (j := j) (k := (o.d % 1000)) (by omega) (by omega) (cwV 2 hts gX5_isSame_X4_says rfl rfl rfl (by decide +kernel) ⟨Nat.le_of_ble_eq_true rfl, Nat.le_of_ble_eq_true rfl⟩) hl.1 (Nat.le_of_ble_eq_true rfl) dX5_isSame_182 ⟨by show _ ≤ 400; omega, by show _ ≤ 3000; omega⟩ (fun H locs hW => ?_)
                    refine lv_aload_n hx hb dX5_isSame_185 rfl (lv_at hl 4 rfl) ?_
                    refine lv_iload hx hb dX5_isSame_186 (lv_at hl 2 rfl) ?_
                    refine lv_aload_n hx hb dX5_isSame_188 rfl (lv_at hl 4 rfl) ?_
                    obtain ⟨Ls9, fs9, hM9, hPs9⟩ := hW.sim
                    refine pg_get (C := RX5) (T := TX5) (N := 6) hx hb hts hi_X5 hown hK hPs9 hM9.1 hM9.2.1 rfl 0 (by decide) (hts (.fieldLink RX5 28 "BarometerLeagueLaw$Sim" "day" "I") (by decide +kernel)) (fun _ h9 => h9) rfl dX5_isSame_189 ?_
                    refine lv_sipush (v := 1000) hx hb dX5_isSame_192 (by decide) ?_
                    refine lv_irem hx hb dX5_isSame_195 (by decide) ?_
                    refine lv_topi (fun v195 ev195 => ?_)
                    rw [show v195 = nI (o.d % 1000) from (ev195.trans (pk_rem (a := o.d) (d := 1000) (by omega) (by decide) (by decide)))]
                    refine u_ssays ⟨hx, hb, hml, hown, hts⟩ hK hW hok (by omega) (j := j) (d := (o.d % 1000)) (by omega) (by omega) (cwV 2 hts gX5_isSame_X5_says rfl rfl rfl (by decide +kernel) ⟨Nat.le_of_ble_eq_true rfl, Nat.le_of_ble_eq_true rfl⟩) hl.1 (Nat.le_of_ble_eq_true rfl) dX5_isSame_196 ⟨by show _ ≤ 400; omega, by show _ ≤ 3000; omega⟩  ?_
                    refine lv_icmp_eq (tgt := 204) hx hb dX5_isSame_199 (by decide) (fun _ => ?_) (fun h => absurd rfl h)
                    rcases hbk with ⟨hb1, rfl⟩ | ⟨i9, hF, rfl⟩
                    · skip
                      refine lv_iload_n hx hb dX5_isSame_204 rfl (lv_at hl 3 rfl) ?_
                      refine lv_if_lt (tgt := 222) hx hb dX5_isSame_205 (by decide) (fun _ => ?_) (fun h => absurd (by decide) h)
                      refine lv_iload hx hb dX5_isSame_222 (lv_at hl 2 rfl) ?_
                      refine lv_istore_n (lv' := [(3, .int (nI j)), (7, .int (nI i)), (6, .ref q96), (4, .int (nI j)), (0, .ref b.sm), (1, .ref lo)]) hx hb dX5_isSame_224 rfl hl (by decide) rfl (fun ls hl => ?_)
                      refine lv_iinc (v := nI j - 1) (lv' := [(4, .int (nI j - 1)), (3, .int (nI j)), (7, .int (nI i)), (6, .ref q96), (0, .ref b.sm), (1, .ref lo)]) hx hb dX5_isSame_225 hl (k := 3) rfl dec_1 (by decide) rfl (fun ls hl => ?_)
                      refine lv_goto (tgt := 43) hx hb dX5_isSame_228 (by decide) ?_
                      refine W.widen (by omega) (by omega) (ih43 j (nI j) H locs (by omega) (by omega) (Or.inr ⟨j, hb1 ▸ Fst_top, rfl⟩) (hW.drop) ls (lv_sub hl [0, 1, 4, 5] rfl))
                    · have hi9 := hF.2.1
                      refine lv_iload_n hx hb dX5_isSame_204 rfl (lv_at hl 3 rfl) ?_
                      refine lv_if_lt (tgt := 222) hx hb dX5_isSame_205 (by decide) (fun c205 => by exfalso; have c205 := (nI_ltI (a := i9) (b := 0) (by omega) (by omega)).mp (show nI i9 < nI 0 from c205); omega) (fun c205 => ?_)
                      have c205 : ¬ i9 < 0 := fun h => c205 ((nI_ltI (a := i9) (b := 0) (by omega) (by omega)).mpr h)
                      refine lv_aload_n hx hb dX5_isSame_208 rfl (lv_at hl 4 rfl) ?_
                      refine lv_iload hx hb dX5_isSame_209 (lv_at hl 2 rfl) ?_
                      refine u_sright ⟨hx, hb, hml, hown, hts⟩ hK hW hok (by omega) (j := j) (by omega) (cwV 1 hts gX5_isSame_X5_right rfl rfl rfl (by decide +kernel) ⟨Nat.le_of_ble_eq_true rfl, Nat.le_of_ble_eq_true rfl⟩) hl.1 (Nat.le_of_ble_eq_true rfl) dX5_isSame_211 ⟨by show _ ≤ 400; omega, by show _ ≤ 3000; omega⟩  ?_
                      refine lv_aload_n hx hb dX5_isSame_214 rfl (lv_at hl 4 rfl) ?_
                      refine lv_iload_n hx hb dX5_isSame_215 rfl (lv_at hl 3 rfl) ?_
                      refine u_sright ⟨hx, hb, hml, hown, hts⟩ hK hW hok (by omega) (j := i9) (by omega) (cwV 1 hts gX5_isSame_X5_right rfl rfl rfl (by decide +kernel) ⟨Nat.le_of_ble_eq_true rfl, Nat.le_of_ble_eq_true rfl⟩) hl.1 (Nat.le_of_ble_eq_true rfl) dX5_isSame_216 ⟨by show _ ≤ 400; omega, by show _ ≤ 3000; omega⟩  ?_
                      rw [right_n o j, right_n o i9]
                      have hr1 := rt_le o j
                      have hr2 := rt_le o i9
                      refine lv_icmp_lt (tgt := 225) hx hb dX5_isSame_219 (by decide) (fun c219 => ?_) (fun c219 => ?_)
                      · skip
                        have c219 : rtO o j < rtO o i9 := (nI_ltI (a := rtO o j) (b := rtO o i9) (by omega) (by omega)).mp (show nI (rtO o j) < nI (rtO o i9) from c219)
                        refine lv_iinc (v := nI j - 1) (lv' := [(4, .int (nI j - 1)), (7, .int (nI i)), (6, .ref q96), (3, .int (nI i9)), (0, .ref b.sm), (1, .ref lo)]) hx hb dX5_isSame_225 hl (k := 2) rfl dec_1 (by decide) rfl (fun ls hl => ?_)
                        refine lv_goto (tgt := 43) hx hb dX5_isSame_228 (by decide) ?_
                        refine W.widen (by omega) (by omega) (ih43 j (nI i9) H locs (by omega) (by omega) (Or.inr ⟨i9, Fst_keep hF c219, rfl⟩) (hW.drop) ls (lv_sub hl [0, 3, 4, 5] rfl))
                      · skip
                        have c219 : ¬ rtO o j < rtO o i9 := fun h => c219 ((nI_ltI (a := rtO o j) (b := rtO o i9) (by omega) (by omega)).mpr h)
                        refine lv_iload hx hb dX5_isSame_222 (lv_at hl 2 rfl) ?_
                        refine lv_istore_n (lv' := [(3, .int (nI j)), (7, .int (nI i)), (6, .ref q96), (4, .int (nI j)), (0, .ref b.sm), (1, .ref lo)]) hx hb dX5_isSame_224 rfl hl (by decide) rfl (fun ls hl => ?_)
                        refine lv_iinc (v := nI j - 1) (lv' := [(4, .int (nI j - 1)), (3, .int (nI j)), (7, .int (nI i)), (6, .ref q96), (0, .ref b.sm), (1, .ref lo)]) hx hb dX5_isSame_225 hl (k := 3) rfl dec_1 (by decide) rfl (fun ls hl => ?_)
                        refine lv_goto (tgt := 43) hx hb dX5_isSame_228 (by decide) ?_
                        refine W.widen (by omega) (by omega) (ih43 j (nI j) H locs (by omega) (by omega) (Or.inr ⟨j, Fst_new hF c219, rfl⟩) (hW.drop) ls (lv_sub hl [0, 1, 4, 5] rfl))
                  · skip
                    have c144 : ¬ 4 ≤ i := fun h => c144 ((nI_leI (a := 4) (b := i) (by omega) (by omega)).mpr h)
                    refine lv_aload_n hx hb dX5_isSame_147 rfl (lv_at hl 5 rfl) ?_
                    refine lv_iload hx hb dX5_isSame_148 (lv_at hl 2 rfl) ?_
                    refine lv_iload hx hb dX5_isSame_150 (lv_at hl 0 rfl) ?_
                    refine u_told ⟨hx, hb, hml, hown, hts⟩ hst hK hZ hW hok (by omega) (j := j) (k := i) (by omega) (by omega) (cwV 2 hts gX5_isSame_X4_told rfl rfl rfl (by decide +kernel) ⟨Nat.le_of_ble_eq_true rfl, Nat.le_of_ble_eq_true rfl⟩) hl.1 (Nat.le_of_ble_eq_true rfl) dX5_isSame_152 ⟨by show _ ≤ 400; omega, by show _ ≤ 3000; omega⟩ (fun H locs hW => ?_)
                    refine lv_aload hx hb dX5_isSame_155 (lv_at hl 1 rfl) ?_
                    refine lv_iload hx hb dX5_isSame_157 (lv_at hl 0 rfl) ?_
                    refine pn_iald (j := i) hx hb hK hW.G.Pw hL_q96 hf_q96 rfl (by omega) (by omega) dX5_isSame_159 ?_
                    rw [hz96 i (by omega)]
                    refine lv_icmp_eq (tgt := 165) hx hb dX5_isSame_160 (by decide) (fun _ => ?_) (fun h => absurd rfl h)
                    refine lv_iinc (v := nI (i + 1)) (lv' := [(7, .int (nI (i + 1))), (6, .ref q96), (4, .int (nI j)), (3, .int bv), (0, .ref b.sm), (1, .ref lo)]) hx hb dX5_isSame_165 hl (k := 0) rfl (nI_1 _) (by decide) rfl (fun ls hl => ?_)
                    refine lv_goto (tgt := 141) hx hb dX5_isSame_168 (by decide) ?_
                    refine W.widen (by omega) (by omega) (ih141 (i + 1) H locs (by omega) (by omega) (hW) ls (lv_sub hl [0, 1, 2, 3, 4, 5] rfl))
              refine W.widen (by omega) (by omega) (K141 _ 0 H locs (Nat.lt_succ_self _) (by omega) (hW) ls (lv_sub hl [0, 1, 4, 5, 6, 7] rfl))
            · skip
              have c69 : ¬ o.nv ≤ v := fun h => c69 ((nI_leI (a := o.nv) (b := v) (by omega) (by omega)).mpr h)
              refine lv_aload hx hb dX5_isSame_72 (lv_at hl 3 rfl) ?_
              refine lv_iload hx hb dX5_isSame_74 (lv_at hl 0 rfl) ?_
              obtain ⟨Ls9, fs9, hM9, hPs9⟩ := hW.sim
              refine pn_rald (n := o.nv) (j := v) hx hb hK hPs9 hM9.L_sw hM9.f_sw rfl (by omega) (by omega) (vilR_at (show v < o.nv by omega)) dX5_isSame_76 ?_
              refine lv_astore (lv' := [(9, .ref (b.fw v)), (8, .int (nI v)), (5, .int acc), (7, .int (nI o.nv)), (6, .ref b.sw), (4, .int (nI j)), (3, .int bv), (0, .ref b.sm), (1, .ref lo)]) hx hb dX5_isSame_77 hl (by decide) rfl (fun ls hl => ?_)
              refine lv_iload hx hb dX5_isSame_79 (lv_at hl 2 rfl) ?_
              refine lv_aload hx hb dX5_isSame_81 (lv_at hl 0 rfl) ?_
              refine lv_iload hx hb dX5_isSame_83 (lv_at hl 5 rfl) ?_
              obtain ⟨Ls9, fs9, hM9, hPs9⟩ := hW.sim
              obtain ⟨hLr9, z9, hfr9, hz9⟩ := hM9.hWR v (show v < o.nv by omega)
              refine pn_iald (j := j) hx hb hK hPs9 hLr9 hfr9 rfl (by omega) (by omega) dX5_isSame_85 ?_
              rw [show z9 j = (o.vs v).2.2.2.2 j from hz9 j (by omega)]
              refine lv_iadd hx hb dX5_isSame_86 ?_
              refine lv_topi (fun v86 ev86 => ?_)
              refine lv_istore (lv' := [(5, .int v86), (9, .ref (b.fw v)), (8, .int (nI v)), (7, .int (nI o.nv)), (6, .ref b.sw), (4, .int (nI j)), (3, .int bv), (0, .ref b.sm), (1, .ref lo)]) hx hb dX5_isSame_87 hl (by decide) rfl (fun ls hl => ?_)
              refine lv_iinc (v := nI (v + 1)) (lv' := [(8, .int (nI (v + 1))), (5, .int v86), (9, .ref (b.fw v)), (7, .int (nI o.nv)), (6, .ref b.sw), (4, .int (nI j)), (3, .int bv), (0, .ref b.sm), (1, .ref lo)]) hx hb dX5_isSame_89 hl (k := 2) rfl (nI_1 _) (by decide) rfl (fun ls hl => ?_)
              refine lv_goto (tgt := 65) hx hb dX5_isSame_92 (by decide) ?_
              refine W.widen (by omega) (by omega) (ih65 (v + 1) v86 H locs (by omega) (by omega) (sumN_e (w := fun u => (o.vs u).2.2.2.2 j) hacc rfl ev86) (hW) ls (lv_sub hl [0, 1, 3, 4, 5, 6, 7, 8] rfl))
        refine W.widen (by omega) (by omega) (K65 _ 0 0 H locs (Nat.lt_succ_self _) (by omega) (rfl) (hW) ls (lv_sub hl [0, 3, 1, 2, 4, 5, 6, 7] rfl))
  refine W.widen (by omega) (by omega) (K43 _ o.n (-1) H locs (Nat.lt_succ_self _) (by omega) (Or.inl ⟨rfl, rfl⟩) (hW) ls (lv_sub hl [0, 1, 2, 3] rfl))
set_option maxHeartbeats 8000000 in
set_option maxRecDepth 100000 in
theorem is_3 {p : Program} {l : Launch} {e : Env} {s : State} {m : MethodId} {args : Array Value} {below : List Frame} {meth : Method} {c : Code} {Q : State → Prop} {g : GG} {t lo : Nat} {L0 : List Nat} {b : SmA} {o : OB} {M cells slots : Nat} {H : Heap} {locs : List Loc} {ls : Array Slot}  (C : LK p l s m args c cX5_isSame 10 wsX5_isSame RX5 g t L0) (hok : OkO M o) (hM : M + 300 < 2 ^ 29) (hW : WD g t lo b o o [] (fun _ => eO 0 []) (AA L0 s.heap.size) s.heap H locs) (hl : lv_has ls 10 [(3, .int (bestO o)), (0, .ref b.sm), (1, .ref lo)])  (hc : cells + 240 ≤ 400) (hs : slots + 1500 ≤ 3000) (kk : ∀ (H : Heap) (locs : List Loc) (ls : Array Slot), WD g t lo b o o [] (fun _ => eO 0 []) (AA L0 s.heap.size) s.heap H locs → lv_has ls 10 [(4, .int (sumN (fun u => (o.vs u).2.1) o.nv)), (3, .int (bestO o)), (0, .ref b.sm), (1, .ref lo)] → W p l e ({ frames := 9, cells := 400, slots := 3000, locals := 200 } : Room) s m args below meth c H locs (cells + 240) (slots + 1500) Q (F0 m 461 ls [])) : W p l e ({ frames := 9, cells := 400, slots := 3000, locals := 200 } : Room) s m args below meth c H locs cells slots Q (F0 m 231 ls []) := by
  obtain ⟨hx, hb, hml, hts, hown, hK, hZ, hDS, hst⟩ := C
  have hi_X5 : ∀ w ∈ u_ws RX5 TX5 6, w ∈ wsX5_isSame := by decide +kernel
  have hn := hok.hn
  have hnv := hok.hnv
  have hd := hok.hd
  refine lv_iconst (v := 0) hx hb dX5_isSame_231 (by decide) ?_
  refine lv_istore (lv' := [(4, .int 0), (3, .int (bestO o)), (0, .ref b.sm), (1, .ref lo)]) hx hb dX5_isSame_232 hl (by decide) rfl (fun ls hl => ?_)
  refine lv_iconst (v := 0) hx hb dX5_isSame_234 (by decide) ?_
  refine lv_istore (lv' := [(5, .int 0), (4, .int 0), (3, .int (bestO o)), (0, .ref b.sm), (1, .ref lo)]) hx hb dX5_isSame_235 hl (by decide) rfl (fun ls hl => ?_)
  have K237 : ∀ (n237 : Nat) (v : Nat) (pts : Int32) (H : Heap) (locs : List Loc), o.nv - v < n237 → v ≤ o.nv → pts = sumN (fun u => (o.vs u).2.1) v → WD g t lo b o o [] (fun _ => eO 0 []) (AA L0 s.heap.size) s.heap H locs → ∀ (ls : Array Slot), lv_has ls 10 [(5, .int (nI v)), (4, .int pts), (3, .int (bestO o)), (0, .ref b.sm), (1, .ref lo)] → W p l e ({ frames := 9, cells := 400, slots := 3000, locals := 200 } : Room) s m args below meth c H locs (cells + 40 * v) (slots + 250 * v) Q (F0 m 237 ls []) := by
    intro n237
    induction n237 with
    | zero => intros; omega
    | succ n237 ih237 =>
      intro v pts H locs hm237 hv hpts hW ls hl
      refine lv_iload hx hb dX5_isSame_237 (lv_at hl 0 rfl) ?_
      refine lv_aload_n hx hb dX5_isSame_239 rfl (lv_at hl 3 rfl) ?_
      obtain ⟨Ls9, fs9, hM9, hPs9⟩ := hW.sim
      refine pg_get (C := RX5) (T := TX5) (N := 6) hx hb hts hi_X5 hown hK hPs9 hM9.1 hM9.2.1 rfl 4 (by decide) (hts (.fieldLink RX5 22 "BarometerLeagueLaw$Sim" "villages" "[[I") (by decide +kernel)) (fun _ h9 => h9) rfl dX5_isSame_240 ?_
      obtain ⟨Ls9, fs9, hM9, hPs9⟩ := hW.sim
      refine pg_alen hx hb hK hPs9 hM9.L_sv hM9.f_sv 4 rfl (v := nI o.nv) rfl dX5_isSame_243 ?_
      refine lv_icmp_ge (tgt := 461) hx hb dX5_isSame_244 (by decide) (fun c244 => ?_) (fun c244 => ?_)
      · skip
        have c244 : o.nv ≤ v := (nI_leI (a := o.nv) (b := v) (by omega) (by omega)).mp (show nI o.nv ≤ nI v from c244)
        rw [show v = o.nv by omega] at hpts
        rw [hpts] at hl
        exact W.widen (by omega) (by omega) (kk H locs ls (hW.drop) (lv_sub hl [1, 2, 3, 4] rfl))
      · skip
        have c244 : ¬ o.nv ≤ v := fun h => c244 ((nI_leI (a := o.nv) (b := v) (by omega) (by omega)).mpr h)
        refine lv_iconst (v := 0) hx hb dX5_isSame_247 (by decide) ?_
        refine lv_istore (lv' := [(6, .int 0), (5, .int (nI v)), (4, .int pts), (3, .int (bestO o)), (0, .ref b.sm), (1, .ref lo)]) hx hb dX5_isSame_248 hl (by decide) rfl (fun ls hl => ?_)
        refine lv_iconst (v := 0) hx hb dX5_isSame_250 (by decide) ?_
        refine lv_istore (lv' := [(7, .int 0), (6, .int 0), (5, .int (nI v)), (4, .int pts), (3, .int (bestO o)), (0, .ref b.sm), (1, .ref lo)]) hx hb dX5_isSame_251 hl (by decide) rfl (fun ls hl => ?_)
        have K253 : ∀ (n253 : Nat) (k : Nat) (acc : Int32) (H : Heap) (locs : List Loc), o.n - k < n253 → k ≤ o.n → acc = sumN (o.vs v).2.2.2.2 k → WD g t lo b o o [] (fun _ => eO 0 []) (AA L0 s.heap.size) s.heap H locs → ∀ (ls : Array Slot), lv_has ls 10 [(7, .int (nI k)), (6, .int acc), (5, .int (nI v)), (4, .int pts), (3, .int (bestO o)), (0, .ref b.sm), (1, .ref lo)] → W p l e ({ frames := 9, cells := 400, slots := 3000, locals := 200 } : Room) s m args below meth c H locs (cells + 40 * v + 2 * k) (slots + 250 * v + 12 * k) Q (F0 m 253 ls []) := by
          intro n253
          induction n253 with
          | zero => intros; omega
          | succ n253 ih253 =>
            intro k acc H locs hm253 hk hacc hW ls hl
            refine lv_iload hx hb dX5_isSame_253 (lv_at hl 0 rfl) ?_
            refine lv_aload_n hx hb dX5_isSame_255 rfl (lv_at hl 5 rfl) ?_
            obtain ⟨Ls9, fs9, hM9, hPs9⟩ := hW.sim
            refine pg_get (C := RX5) (T := TX5) (N := 6) hx hb hts hi_X5 hown hK hPs9 hM9.1 hM9.2.1 rfl 3 (by decide) (hts (.fieldLink RX5 18 "BarometerLeagueLaw$Sim" "signs" "[[I") (by decide +kernel)) (fun _ h9 => h9) rfl dX5_isSame_256 ?_
            obtain ⟨Ls9, fs9, hM9, hPs9⟩ := hW.sim
            refine pg_alen hx hb hK hPs9 hM9.L_ss hM9.f_ss 4 rfl (v := nI o.n) rfl dX5_isSame_259 ?_
            refine lv_icmp_ge (tgt := 307) hx hb dX5_isSame_260 (by decide) (fun c260 => ?_) (fun c260 => ?_)
            · skip
              have c260 : o.n ≤ k := (nI_leI (a := o.n) (b := k) (by omega) (by omega)).mp (show nI o.n ≤ nI k from c260)
              rw [show k = o.n by omega] at hacc
              refine lv_bipush (v := 7) hx hb dX5_isSame_307 (by decide) ?_
              refine w_newI hx hb (hts (.arrayClass .int) (by decide +kernel)) hK (fun _ h => Or.inr h) hW.G (k := 7) rfl (by omega) (by show _ ≤ 400; omega) (by show _ ≤ 3000; omega) dX5_isSame_309 (fun q309 H hq309 hW => ?_)
              obtain ⟨fwq309, efwq309⟩ : ∃ z, z = va_up (fun _ => eO 0 []) q309 (eI g 7 (fun _ => 0)) := ⟨_, rfl⟩
              rw [← efwq309] at hW
              have hf_q309 : fwq309 q309 = eI g 7 (fun _ => 0) := by rw [efwq309]; exact va_up_self _ _ _
              have hL_q309 : q309 ∈ (q309 :: []) := List.mem_cons_self
              replace hW := WDG.O hW
              refine lv_dup hx hb dX5_isSame_311 rfl ?_
              refine lv_iconst (v := 0) hx hb dX5_isSame_312 (by decide) ?_
              refine lv_aload_n hx hb dX5_isSame_313 rfl (lv_at hl 5 rfl) ?_
              obtain ⟨Ls9, fs9, hM9, hPs9⟩ := hW.sim
              refine pg_get (C := RX5) (T := TX5) (N := 6) hx hb hts hi_X5 hown hK hPs9 hM9.1 hM9.2.1 rfl 4 (by decide) (hts (.fieldLink RX5 22 "BarometerLeagueLaw$Sim" "villages" "[[I") (by decide +kernel)) (fun _ h9 => h9) rfl dX5_isSame_314 ?_
              refine lv_iload hx hb dX5_isSame_317 (lv_at hl 2 rfl) ?_
              obtain ⟨Ls9, fs9, hM9, hPs9⟩ := hW.sim
              refine pn_rald (n := o.nv) (j := v) hx hb hK hPs9 hM9.L_sv hM9.f_sv rfl (by omega) (by omega) (vilR_at (show v < o.nv by omega)) dX5_isSame_319 ?_
              refine lv_iconst (v := 0) hx hb dX5_isSame_320 (by decide) ?_
              obtain ⟨Ls9, fs9, hM9, hPs9⟩ := hW.sim
              obtain ⟨hLr9, z9, hfr9, hz9⟩ := hM9.hVR v (show v < o.nv by omega)
              refine pn_iald (j := 0) hx hb hK hPs9 hLr9 hfr9 rfl (by omega) (by omega) dX5_isSame_321 ?_
              rw [show z9 0 = (o.vs v).2.1 from hz9 0 (by omega)]
              refine w_iast hx hb hK hW.G hL_q309 hf_q309 (j := 0) rfl (by omega) (by omega) dX5_isSame_322 (fun H locs hW => ?_)
              obtain ⟨fw322, efw322⟩ : ∃ z, z = va_up fwq309 q309 (eI g 7 (upd (fun _ => 0) 0 ((o.vs v).2.1))) := ⟨_, rfl⟩
              rw [← efw322] at hW
              have hf_q309 : fw322 q309 = eI g 7 (upd (fun _ => 0) 0 ((o.vs v).2.1)) := by rw [efw322]; exact va_up_self _ _ _
              replace hW := WDG.O hW
              refine lv_dup hx hb dX5_isSame_323 rfl ?_
              refine lv_iconst (v := 1) hx hb dX5_isSame_324 (by decide) ?_
              refine lv_aload_n hx hb dX5_isSame_325 rfl (lv_at hl 5 rfl) ?_
              obtain ⟨Ls9, fs9, hM9, hPs9⟩ := hW.sim
              refine pg_get (C := RX5) (T := TX5) (N := 6) hx hb hts hi_X5 hown hK hPs9 hM9.1 hM9.2.1 rfl 4 (by decide) (hts (.fieldLink RX5 22 "BarometerLeagueLaw$Sim" "villages" "[[I") (by decide +kernel)) (fun _ h9 => h9) rfl dX5_isSame_326 ?_
              refine lv_iload hx hb dX5_isSame_329 (lv_at hl 2 rfl) ?_
              obtain ⟨Ls9, fs9, hM9, hPs9⟩ := hW.sim
              refine pn_rald (n := o.nv) (j := v) hx hb hK hPs9 hM9.L_sv hM9.f_sv rfl (by omega) (by omega) (vilR_at (show v < o.nv by omega)) dX5_isSame_331 ?_
              refine lv_iconst (v := 1) hx hb dX5_isSame_332 (by decide) ?_
              obtain ⟨Ls9, fs9, hM9, hPs9⟩ := hW.sim
              obtain ⟨hLr9, z9, hfr9, hz9⟩ := hM9.hVR v (show v < o.nv by omega)
              refine pn_iald (j := 1) hx hb hK hPs9 hLr9 hfr9 rfl (by omega) (by omega) dX5_isSame_333 ?_
              rw [show z9 1 = (o.vs v).2.2.1 from hz9 1 (by omega)]
              refine w_iast hx hb hK hW.G hL_q309 hf_q309 (j := 1) rfl (by omega) (by omega) dX5_isSame_334 (fun H locs hW => ?_)
              obtain ⟨fw334, efw334⟩ : ∃ z, z = va_up fw322 q309 (eI g 7 (upd (upd (fun _ => 0) 0 ((o.vs v).2.1)) 1 ((o.vs v).2.2.1))) := ⟨_, rfl⟩
              rw [← efw334] at hW
              have hf_q309 : fw334 q309 = eI g 7 (upd (upd (fun _ => 0) 0 ((o.vs v).2.1)) 1 ((o.vs v).2.2.1)) := by rw [efw334]; exact va_up_self _ _ _
              replace hW := WDG.O hW
              refine lv_dup hx hb dX5_isSame_335 rfl ?_
              refine lv_iconst (v := 2) hx hb dX5_isSame_336 (by decide) ?_
              refine lv_aload_n hx hb dX5_isSame_337 rfl (lv_at hl 5 rfl) ?_
              obtain ⟨Ls9, fs9, hM9, hPs9⟩ := hW.sim
              refine pg_get (C := RX5) (T := TX5) (N := 6) hx hb hts hi_X5 hown hK hPs9 hM9.1 hM9.2.1 rfl 4 (by decide) (hts (.fieldLink RX5 22 "BarometerLeagueLaw$Sim" "villages" "[[I") (by decide +kernel)) (fun _ h9 => h9) rfl dX5_isSame_338 ?_
              refine lv_iload hx hb dX5_isSame_341 (lv_at hl 2 rfl) ?_
              obtain ⟨Ls9, fs9, hM9, hPs9⟩ := hW.sim
              refine pn_rald (n := o.nv) (j := v) hx hb hK hPs9 hM9.L_sv hM9.f_sv rfl (by omega) (by omega) (vilR_at (show v < o.nv by omega)) dX5_isSame_343 ?_
              refine lv_iconst (v := 2) hx hb dX5_isSame_344 (by decide) ?_
              obtain ⟨Ls9, fs9, hM9, hPs9⟩ := hW.sim
              obtain ⟨hLr9, z9, hfr9, hz9⟩ := hM9.hVR v (show v < o.nv by omega)
              refine pn_iald (j := 2) hx hb hK hPs9 hLr9 hfr9 rfl (by omega) (by omega) dX5_isSame_345 ?_
              rw [show z9 2 = (o.vs v).2.2.2.1 from hz9 2 (by omega)]
              refine w_iast hx hb hK hW.G hL_q309 hf_q309 (j := 2) rfl (by omega) (by omega) dX5_isSame_346 (fun H locs hW => ?_)
              obtain ⟨fw346, efw346⟩ : ∃ z, z = va_up fw334 q309 (eI g 7 (upd (upd (upd (fun _ => 0) 0 ((o.vs v).2.1)) 1 ((o.vs v).2.2.1)) 2 ((o.vs v).2.2.2.1))) := ⟨_, rfl⟩
              rw [← efw346] at hW
              have hf_q309 : fw346 q309 = eI g 7 (upd (upd (upd (fun _ => 0) 0 ((o.vs v).2.1)) 1 ((o.vs v).2.2.1)) 2 ((o.vs v).2.2.2.1)) := by rw [efw346]; exact va_up_self _ _ _
              replace hW := WDG.O hW
              refine lv_dup hx hb dX5_isSame_347 rfl ?_
              refine lv_iconst (v := 3) hx hb dX5_isSame_348 (by decide) ?_
              refine lv_iload hx hb dX5_isSame_349 (lv_at hl 1 rfl) ?_
              refine w_iast hx hb hK hW.G hL_q309 hf_q309 (j := 3) rfl (by omega) (by omega) dX5_isSame_351 (fun H locs hW => ?_)
              obtain ⟨fw351, efw351⟩ : ∃ z, z = va_up fw346 q309 (eI g 7 (upd (upd (upd (upd (fun _ => 0) 0 ((o.vs v).2.1)) 1 ((o.vs v).2.2.1)) 2 ((o.vs v).2.2.2.1)) 3 acc)) := ⟨_, rfl⟩
              rw [← efw351] at hW
              have hf_q309 : fw351 q309 = eI g 7 (upd (upd (upd (upd (fun _ => 0) 0 ((o.vs v).2.1)) 1 ((o.vs v).2.2.1)) 2 ((o.vs v).2.2.2.1)) 3 acc) := by rw [efw351]; exact va_up_self _ _ _
              replace hW := WDG.O hW
              refine lv_dup hx hb dX5_isSame_352 rfl ?_
              refine lv_iconst (v := 4) hx hb dX5_isSame_353 (by decide) ?_
              refine lv_aload_n hx hb dX5_isSame_354 rfl (lv_at hl 5 rfl) ?_
              refine lv_iload hx hb dX5_isSame_355 (lv_at hl 2 rfl) ?_
              refine u_splace ⟨hx, hb, hml, hown, hts⟩ hK hW hok (by omega) (v := v) (by omega) (cwV 1 hts gX5_isSame_X5_place rfl rfl rfl (by decide +kernel) ⟨Nat.le_of_ble_eq_true rfl, Nat.le_of_ble_eq_true rfl⟩) hl.1 (Nat.le_of_ble_eq_true rfl) dX5_isSame_357 ⟨by show _ ≤ 400; omega, by show _ ≤ 3000; omega⟩  ?_
              refine w_iast hx hb hK hW.G hL_q309 hf_q309 (j := 4) rfl (by omega) (by omega) dX5_isSame_360 (fun H locs hW => ?_)
              obtain ⟨fw360, efw360⟩ : ∃ z, z = va_up fw351 q309 (eI g 7 (upd (upd (upd (upd (upd (fun _ => 0) 0 ((o.vs v).2.1)) 1 ((o.vs v).2.2.1)) 2 ((o.vs v).2.2.2.1)) 3 acc) 4 (placeV o.vs o.nv (o.vs v)))) := ⟨_, rfl⟩
              rw [← efw360] at hW
              have hf_q309 : fw360 q309 = eI g 7 (upd (upd (upd (upd (upd (fun _ => 0) 0 ((o.vs v).2.1)) 1 ((o.vs v).2.2.1)) 2 ((o.vs v).2.2.2.1)) 3 acc) 4 (placeV o.vs o.nv (o.vs v))) := by rw [efw360]; exact va_up_self _ _ _
              replace hW := WDG.O hW
              refine lv_dup hx hb dX5_isSame_361 rfl ?_
              refine lv_iconst (v := 5) hx hb dX5_isSame_362 (by decide) ?_
              refine lv_aload_n hx hb dX5_isSame_363 rfl (lv_at hl 5 rfl) ?_
              refine lv_iload hx hb dX5_isSame_364 (lv_at hl 2 rfl) ?_
              refine u_slean ⟨hx, hb, hml, hown, hts⟩ hK hW hok (by omega) (v := v) (by omega) (cwV 1 hts gX5_isSame_X5_lean rfl rfl rfl (by decide +kernel) ⟨Nat.le_of_ble_eq_true rfl, Nat.le_of_ble_eq_true rfl⟩) hl.1 (Nat.le_of_ble_eq_true rfl) dX5_isSame_366 ⟨by show _ ≤ 400; omega, by show _ ≤ 3000; omega⟩  ?_
              refine r_gt01 hx hb dX5_isSame_369 dX5_isSame_372 dX5_isSame_373 dX5_isSame_376 ?_
              refine w_iast hx hb hK hW.G hL_q309 hf_q309 (j := 5) rfl (by omega) (by omega) dX5_isSame_377 (fun H locs hW => ?_)
              obtain ⟨fw377, efw377⟩ : ∃ z, z = va_up fw360 q309 (eI g 7 (upd (upd (upd (upd (upd (upd (fun _ => 0) 0 ((o.vs v).2.1)) 1 ((o.vs v).2.2.1)) 2 ((o.vs v).2.2.2.1)) 3 acc) 4 (placeV o.vs o.nv (o.vs v))) 5 (b2i (decide (0 < aboutO o v 6))))) := ⟨_, rfl⟩
              rw [← efw377] at hW
              have hf_q309 : fw377 q309 = eI g 7 (upd (upd (upd (upd (upd (upd (fun _ => 0) 0 ((o.vs v).2.1)) 1 ((o.vs v).2.2.1)) 2 ((o.vs v).2.2.2.1)) 3 acc) 4 (placeV o.vs o.nv (o.vs v))) 5 (b2i (decide (0 < aboutO o v 6)))) := by rw [efw377]; exact va_up_self _ _ _
              replace hW := WDG.O hW
              refine lv_dup hx hb dX5_isSame_378 rfl ?_
              refine lv_bipush (v := 6) hx hb dX5_isSame_379 (by decide) ?_
              refine lv_aload_n hx hb dX5_isSame_381 rfl (lv_at hl 5 rfl) ?_
              refine lv_iload hx hb dX5_isSame_382 (lv_at hl 2 rfl) ?_
              refine u_slean ⟨hx, hb, hml, hown, hts⟩ hK hW hok (by omega) (v := v) (by omega) (cwV 1 hts gX5_isSame_X5_lean rfl rfl rfl (by decide +kernel) ⟨Nat.le_of_ble_eq_true rfl, Nat.le_of_ble_eq_true rfl⟩) hl.1 (Nat.le_of_ble_eq_true rfl) dX5_isSame_384 ⟨by show _ ≤ 400; omega, by show _ ≤ 3000; omega⟩  ?_
              refine w_iast hx hb hK hW.G hL_q309 hf_q309 (j := 6) rfl (by omega) (by omega) dX5_isSame_387 (fun H locs hW => ?_)
              obtain ⟨fw387, efw387⟩ : ∃ z, z = va_up fw377 q309 (eI g 7 (upd (upd (upd (upd (upd (upd (upd (fun _ => 0) 0 ((o.vs v).2.1)) 1 ((o.vs v).2.2.1)) 2 ((o.vs v).2.2.2.1)) 3 acc) 4 (placeV o.vs o.nv (o.vs v))) 5 (b2i (decide (0 < aboutO o v 6)))) 6 (aboutO o v 6))) := ⟨_, rfl⟩
              rw [← efw387] at hW
              have hf_q309 : fw387 q309 = eI g 7 (upd (upd (upd (upd (upd (upd (upd (fun _ => 0) 0 ((o.vs v).2.1)) 1 ((o.vs v).2.2.1)) 2 ((o.vs v).2.2.2.1)) 3 acc) 4 (placeV o.vs o.nv (o.vs v))) 5 (b2i (decide (0 < aboutO o v 6)))) 6 (aboutO o v 6)) := by rw [efw387]; exact va_up_self _ _ _
              replace hW := WDG.O hW
              refine lv_astore (lv' := [(7, .ref q309), (6, .int acc), (5, .int (nI v)), (4, .int pts), (3, .int (bestO o)), (0, .ref b.sm), (1, .ref lo)]) hx hb dX5_isSame_388 hl (by decide) rfl (fun ls hl => ?_)
              have hz309 : ∀ i, i < 7 → (upd (upd (upd (upd (upd (upd (upd (fun _ => 0) 0 ((o.vs v).2.1)) 1 ((o.vs v).2.2.1)) 2 ((o.vs v).2.2.2.1)) 3 acc) 4 (placeV o.vs o.nv (o.vs v))) 5 (b2i (decide (0 < aboutO o v 6)))) 6 (aboutO o v 6)) i = aboutO o v i := fun i hi => by rcases (show i = 0 ∨ i = 1 ∨ i = 2 ∨ i = 3 ∨ i = 4 ∨ i = 5 ∨ i = 6 by omega) with rfl | rfl | rfl | rfl | rfl | rfl | rfl; rfl; rfl; rfl; exact hacc; rfl; rfl; rfl
              refine lv_iconst (v := 0) hx hb dX5_isSame_390 (by decide) ?_
              refine lv_istore (lv' := [(8, .int 0), (7, .ref q309), (6, .int acc), (5, .int (nI v)), (4, .int pts), (3, .int (bestO o)), (0, .ref b.sm), (1, .ref lo)]) hx hb dX5_isSame_391 hl (by decide) rfl (fun ls hl => ?_)
              have K393 : ∀ (n393 : Nat) (i : Nat) (H : Heap) (locs : List Loc), 7 - i < n393 → i ≤ 7 → WD g t lo b o o (q309 :: []) fw387 (AA L0 s.heap.size) s.heap H locs → ∀ (ls : Array Slot), lv_has ls 10 [(8, .int (nI i)), (7, .ref q309), (5, .int (nI v)), (4, .int pts), (3, .int (bestO o)), (0, .ref b.sm), (1, .ref lo)] → W p l e ({ frames := 9, cells := 400, slots := 3000, locals := 200 } : Room) s m args below meth c H locs (cells + 40 * v + 17 + 2 * i) (slots + 250 * v + 103 + 12 * i) Q (F0 m 393 ls []) := by
                intro n393
                induction n393 with
                | zero => intros; omega
                | succ n393 ih393 =>
                  intro i H locs hm393 hi hW ls hl
                  refine lv_iload hx hb dX5_isSame_393 (lv_at hl 0 rfl) ?_
                  refine lv_bipush (v := 7) hx hb dX5_isSame_395 (by decide) ?_
                  refine lv_icmp_ge (tgt := 424) hx hb dX5_isSame_397 (by decide) (fun c397 => ?_) (fun c397 => ?_)
                  · skip
                    have c397 : 7 ≤ i := (nI_leI (a := 7) (b := i) (by omega) (by omega)).mp (show nI 7 ≤ nI i from c397)
                    refine lv_aload_n hx hb dX5_isSame_424 rfl (lv_at hl 6 rfl) ?_
                    refine lv_aload_n hx hb dX5_isSame_425 rfl (lv_at hl 5 rfl) ?_
                    refine lv_iload hx hb dX5_isSame_426 (lv_at hl 2 rfl) ?_
                    refine u_splace ⟨hx, hb, hml, hown, hts⟩ hK hW hok (by omega) (v := v) (by omega) (cwV 1 hts gX5_isSame_X5_place rfl rfl rfl (by decide +kernel) ⟨Nat.le_of_ble_eq_true rfl, Nat.le_of_ble_eq_true rfl⟩) hl.1 (Nat.le_of_ble_eq_true rfl) dX5_isSame_428 ⟨by show _ ≤ 400; omega, by show _ ≤ 3000; omega⟩  ?_
                    refine u_at ⟨hx, hb, hml, hown, hts⟩ hst hK hZ hW hok (by omega) (pl := placeV o.vs o.nv (o.vs v)) ⟨v, by omega, rfl⟩ (cwV 1 hts gX5_isSame_X4_at rfl rfl rfl (by decide +kernel) ⟨Nat.le_of_ble_eq_true rfl, Nat.le_of_ble_eq_true rfl⟩) hl.1 (Nat.le_of_ble_eq_true rfl) dX5_isSame_431 ⟨by show _ ≤ 400; omega, by show _ ≤ 3000; omega⟩ (fun r431 H locs hr431 hW => ?_)
                    obtain ⟨i9, hi9, rfl, hp9⟩ := hr431
                    have e9 : i9 = v := by rw [place_pl, place_pl] at hp9; have hq1 := pl_rng hok (by omega) hi9; have hq2 := pl_rng hok (by omega) (show v < o.nv by omega); exact plO_inj hok (by omega) hi9 (by omega) ((nI_eq (by omega) (by omega)).mp hp9)
                    rw [e9]
                    refine lv_iload hx hb dX5_isSame_434 (lv_at hl 2 rfl) ?_
                    refine lv_icmp_eq (tgt := 441) hx hb dX5_isSame_436 (by decide) (fun _ => ?_) (fun h => absurd rfl h)
                    refine lv_iload hx hb dX5_isSame_441 (lv_at hl 3 rfl) ?_
                    refine lv_aload_n hx hb dX5_isSame_443 rfl (lv_at hl 5 rfl) ?_
                    obtain ⟨Ls9, fs9, hM9, hPs9⟩ := hW.sim
                    refine pg_get (C := RX5) (T := TX5) (N := 6) hx hb hts hi_X5 hown hK hPs9 hM9.1 hM9.2.1 rfl 4 (by decide) (hts (.fieldLink RX5 22 "BarometerLeagueLaw$Sim" "villages" "[[I") (by decide +kernel)) (fun _ h9 => h9) rfl dX5_isSame_444 ?_
                    refine lv_iload hx hb dX5_isSame_447 (lv_at hl 2 rfl) ?_
                    obtain ⟨Ls9, fs9, hM9, hPs9⟩ := hW.sim
                    refine pn_rald (n := o.nv) (j := v) hx hb hK hPs9 hM9.L_sv hM9.f_sv rfl (by omega) (by omega) (vilR_at (show v < o.nv by omega)) dX5_isSame_449 ?_
                    refine lv_iconst (v := 0) hx hb dX5_isSame_450 (by decide) ?_
                    obtain ⟨Ls9, fs9, hM9, hPs9⟩ := hW.sim
                    obtain ⟨hLr9, z9, hfr9, hz9⟩ := hM9.hVR v (show v < o.nv by omega)
                    refine pn_iald (j := 0) hx hb hK hPs9 hLr9 hfr9 rfl (by omega) (by omega) dX5_isSame_451 ?_
                    rw [show z9 0 = (o.vs v).2.1 from hz9 0 (by omega)]
                    refine lv_iadd hx hb dX5_isSame_452 ?_
                    refine lv_topi (fun v452 ev452 => ?_)
                    refine lv_istore (lv' := [(4, .int v452), (8, .int (nI i)), (7, .ref q309), (5, .int (nI v)), (3, .int (bestO o)), (0, .ref b.sm), (1, .ref lo)]) hx hb dX5_isSame_453 hl (by decide) rfl (fun ls hl => ?_)
                    refine lv_iinc (v := nI (v + 1)) (lv' := [(5, .int (nI (v + 1))), (4, .int v452), (8, .int (nI i)), (7, .ref q309), (3, .int (bestO o)), (0, .ref b.sm), (1, .ref lo)]) hx hb dX5_isSame_455 hl (k := 3) rfl (nI_1 _) (by decide) rfl (fun ls hl => ?_)
                    refine lv_goto (tgt := 237) hx hb dX5_isSame_458 (by decide) ?_
                    refine W.widen (by omega) (by omega) (ih237 (v + 1) v452 H locs (by omega) (by omega) (sumN_e (w := fun u => (o.vs u).2.1) hpts rfl ev452) (hW.drop) ls (lv_sub hl [0, 1, 4, 5, 6] rfl))
                  · skip
                    have c397 : ¬ 7 ≤ i := fun h => c397 ((nI_leI (a := 7) (b := i) (by omega) (by omega)).mpr h)
                    refine lv_aload_n hx hb dX5_isSame_400 rfl (lv_at hl 6 rfl) ?_
                    refine lv_iload hx hb dX5_isSame_401 (lv_at hl 2 rfl) ?_
                    refine lv_iload hx hb dX5_isSame_403 (lv_at hl 0 rfl) ?_
                    refine u_about ⟨hx, hb, hml, hown, hts⟩ hst hK hZ hW hok (by omega) (u := v) (k := i) (by omega) (by omega) (cwV 2 hts gX5_isSame_X4_about rfl rfl rfl (by decide +kernel) ⟨Nat.le_of_ble_eq_true rfl, Nat.le_of_ble_eq_true rfl⟩) hl.1 (Nat.le_of_ble_eq_true rfl) dX5_isSame_405 ⟨by show _ ≤ 400; omega, by show _ ≤ 3000; omega⟩ (fun H locs hW => ?_)
                    refine lv_aload hx hb dX5_isSame_408 (lv_at hl 1 rfl) ?_
                    refine lv_iload hx hb dX5_isSame_410 (lv_at hl 0 rfl) ?_
                    refine pn_iald (j := i) hx hb hK hW.G.Pw hL_q309 hf_q309 rfl (by omega) (by omega) dX5_isSame_412 ?_
                    rw [hz309 i (by omega)]
                    refine lv_icmp_eq (tgt := 418) hx hb dX5_isSame_413 (by decide) (fun _ => ?_) (fun h => absurd rfl h)
                    refine lv_iinc (v := nI (i + 1)) (lv' := [(8, .int (nI (i + 1))), (7, .ref q309), (5, .int (nI v)), (4, .int pts), (3, .int (bestO o)), (0, .ref b.sm), (1, .ref lo)]) hx hb dX5_isSame_418 hl (k := 0) rfl (nI_1 _) (by decide) rfl (fun ls hl => ?_)
                    refine lv_goto (tgt := 393) hx hb dX5_isSame_421 (by decide) ?_
                    refine W.widen (by omega) (by omega) (ih393 (i + 1) H locs (by omega) (by omega) (hW) ls (lv_sub hl [0, 1, 2, 3, 4, 5, 6] rfl))
              refine W.widen (by omega) (by omega) (K393 _ 0 H locs (Nat.lt_succ_self _) (by omega) (hW) ls (lv_sub hl [0, 1, 3, 4, 5, 6, 7] rfl))
            · skip
              have c260 : ¬ o.n ≤ k := fun h => c260 ((nI_leI (a := o.n) (b := k) (by omega) (by omega)).mpr h)
              refine lv_iload hx hb dX5_isSame_263 (lv_at hl 1 rfl) ?_
              refine lv_aload_n hx hb dX5_isSame_265 rfl (lv_at hl 5 rfl) ?_
              obtain ⟨Ls9, fs9, hM9, hPs9⟩ := hW.sim
              refine pg_get (C := RX5) (T := TX5) (N := 6) hx hb hts hi_X5 hown hK hPs9 hM9.1 hM9.2.1 rfl 5 (by decide) (hts (.fieldLink RX5 25 "BarometerLeagueLaw$Sim" "weights" "[[I") (by decide +kernel)) (fun _ h9 => h9) rfl dX5_isSame_266 ?_
              refine lv_iload hx hb dX5_isSame_269 (lv_at hl 2 rfl) ?_
              obtain ⟨Ls9, fs9, hM9, hPs9⟩ := hW.sim
              refine pn_rald (n := o.nv) (j := v) hx hb hK hPs9 hM9.L_sw hM9.f_sw rfl (by omega) (by omega) (vilR_at (show v < o.nv by omega)) dX5_isSame_271 ?_
              refine lv_iload hx hb dX5_isSame_272 (lv_at hl 0 rfl) ?_
              obtain ⟨Ls9, fs9, hM9, hPs9⟩ := hW.sim
              obtain ⟨hLr9, z9, hfr9, hz9⟩ := hM9.hWR v (show v < o.nv by omega)
              refine pn_iald (j := k) hx hb hK hPs9 hLr9 hfr9 rfl (by omega) (by omega) dX5_isSame_274 ?_
              rw [show z9 k = (o.vs v).2.2.2.2 k from hz9 k (by omega)]
              refine lv_iadd hx hb dX5_isSame_275 ?_
              refine lv_topi (fun v275 ev275 => ?_)
              refine lv_istore (lv' := [(6, .int v275), (7, .int (nI k)), (5, .int (nI v)), (4, .int pts), (3, .int (bestO o)), (0, .ref b.sm), (1, .ref lo)]) hx hb dX5_isSame_276 hl (by decide) rfl (fun ls hl => ?_)
              refine lv_aload_n hx hb dX5_isSame_278 rfl (lv_at hl 6 rfl) ?_
              refine lv_iload hx hb dX5_isSame_279 (lv_at hl 2 rfl) ?_
              refine lv_iload hx hb dX5_isSame_281 (lv_at hl 1 rfl) ?_
              refine u_weight ⟨hx, hb, hml, hown, hts⟩ hst hK hZ hW hok (by omega) (u := v) (j := k) (by omega) (by omega) (cwV 2 hts gX5_isSame_X4_weight rfl rfl rfl (by decide +kernel) ⟨Nat.le_of_ble_eq_true rfl, Nat.le_of_ble_eq_true rfl⟩) hl.1 (Nat.le_of_ble_eq_true rfl) dX5_isSame_283 ⟨by show _ ≤ 400; omega, by show _ ≤ 3000; omega⟩ (fun H locs hW => ?_)
              refine lv_aload_n hx hb dX5_isSame_286 rfl (lv_at hl 5 rfl) ?_
              obtain ⟨Ls9, fs9, hM9, hPs9⟩ := hW.sim
              refine pg_get (C := RX5) (T := TX5) (N := 6) hx hb hts hi_X5 hown hK hPs9 hM9.1 hM9.2.1 rfl 5 (by decide) (hts (.fieldLink RX5 25 "BarometerLeagueLaw$Sim" "weights" "[[I") (by decide +kernel)) (fun _ h9 => h9) rfl dX5_isSame_287 ?_
              refine lv_iload hx hb dX5_isSame_290 (lv_at hl 2 rfl) ?_
              obtain ⟨Ls9, fs9, hM9, hPs9⟩ := hW.sim
              refine pn_rald (n := o.nv) (j := v) hx hb hK hPs9 hM9.L_sw hM9.f_sw rfl (by omega) (by omega) (vilR_at (show v < o.nv by omega)) dX5_isSame_292 ?_
              refine lv_iload hx hb dX5_isSame_293 (lv_at hl 1 rfl) ?_
              obtain ⟨Ls9, fs9, hM9, hPs9⟩ := hW.sim
              obtain ⟨hLr9, z9, hfr9, hz9⟩ := hM9.hWR v (show v < o.nv by omega)
              refine pn_iald (j := k) hx hb hK hPs9 hLr9 hfr9 rfl (by omega) (by omega) dX5_isSame_295 ?_
              rw [show z9 k = (o.vs v).2.2.2.2 k from hz9 k (by omega)]
              refine lv_icmp_eq (tgt := 301) hx hb dX5_isSame_296 (by decide) (fun _ => ?_) (fun h => absurd rfl h)
              refine lv_iinc (v := nI (k + 1)) (lv' := [(7, .int (nI (k + 1))), (6, .int v275), (5, .int (nI v)), (4, .int pts), (3, .int (bestO o)), (0, .ref b.sm), (1, .ref lo)]) hx hb dX5_isSame_301 hl (k := 1) rfl (nI_1 _) (by decide) rfl (fun ls hl => ?_)
              refine lv_goto (tgt := 253) hx hb dX5_isSame_304 (by decide) ?_
              refine W.widen (by omega) (by omega) (ih253 (k + 1) v275 H locs (by omega) (by omega) (sumN_e (w := (o.vs v).2.2.2.2) hacc rfl ev275) (hW) ls (lv_sub hl [0, 1, 2, 3, 4, 5, 6] rfl))
        refine W.widen (by omega) (by omega) (K253 _ 0 0 H locs (Nat.lt_succ_self _) (by omega) (rfl) (hW) ls (lv_sub hl [0, 1, 2, 3, 4, 5, 6] rfl))
  refine W.widen (by omega) (by omega) (K237 _ 0 0 H locs (Nat.lt_succ_self _) (by omega) (rfl) (hW) ls (lv_sub hl [0, 1, 2, 3, 4] rfl))
