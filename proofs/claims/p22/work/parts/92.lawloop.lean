/-! ===== the law ===== -/
set_option maxHeartbeats 8000000 in
set_option maxRecDepth 100000 in
theorem lw_A {p : Program} {l : Launch} {e : Env} {s : State} {m : MethodId} {args : Array Value} {below : List Frame} {meth : Method} {c : Code} {Q : State → Prop} {g : GG} {t lo : Nat} {L0 : List Nat} {b : SmA} {o : OB} {M cells slots : Nat} {H : Heap} {locs : List Loc} {ls : Array Slot} {bs nS τ : Nat} {xs : Nat → Int32} (C : LK p l s m args c cL_law 32 wsL_law RL g t L0) (hok : OkO M o) (hM : M + 300 < 2 ^ 28) (hW : WD g t lo b o o [] (fun _ => eO 0 []) (AA L0 s.heap.size) s.heap H locs) (hl : lv_has ls 32 [(3, .int (nI τ)), (2, .ref b.sm), (1, .ref lo), (0, .ref bs)]) (hτ : τ < 30) (hnS : nS < 1000) (hX : va_X bs nS xs s s.heap) (hbl : bs < s.heap.size) (hbA : ¬ AA L0 s.heap.size bs) (hc : cells + 50 ≤ 1200130) (hs : slots + 1200 ≤ 5501080) (kk : ∀ (o2 : OB) (b2 : SmA) (Lw : List Nat) (fw : Nat → va_E) (q8 q9 : Nat) (fa fb : Nat → Nat) (x4 : Int32) (H : Heap) (locs : List Loc) (ls : Array Slot), b2.sm = b.sm → OkO (M + 250) o2 → TB g Lw fw q8 7 o2.nv fa (fun _ _ => False) (aboutO o2) → TB g Lw fw q9 o2.n o2.nv fb (fun _ _ => False) (wtsO o2) → (∀ u v, u < o2.nv → v < o2.nv → fa u ≠ fb v) → WD g t lo b2 o2 o2 Lw fw (AA L0 s.heap.size) s.heap H locs → lv_has ls 32 [(14, .int 0), (13, .int 0), (12, .int 0), (11, .int 0), (10, .int 0), (9, .ref q9), (8, .ref q8), (7, .int (nI o2.nv)), (6, .int (nI o2.n)), (5, .int (nI o2.d)), (4, .int x4), (3, .int (nI τ)), (2, .ref b2.sm), (1, .ref lo), (0, .ref bs)] → W p l e room_1 s m args below meth c H locs (cells + 50) (slots + 1200) Q (F0 m 120 ls [])) : W p l e room_1 s m args below meth c H locs cells slots Q (F0 m 28 ls []) := by
  obtain ⟨hx, hb, hml, hts, hown, hK, hZ, hDS, hst⟩ := C
  have hi_X5 : ∀ w ∈ u_ws RX5 TX5 6, w ∈ wsL_law := by decide +kernel
  have hn := hok.hn
  have hnv := hok.hnv
  have hd := hok.hd
  refine lv_aload_n hx hb dL_law_28 rfl (lv_at hl 3 rfl) ?_
  refine lv_iload_n hx hb dL_law_29 rfl (lv_at hl 0 rfl) ?_
  refine lv_bipush (v := 16) hx hb dL_law_30 (by decide) ?_
  refine lv_irem hx hb dL_law_32 (by decide) ?_
  refine lv_topi (fun v32 ev32 => ?_)
  rw [show v32 = nI (τ % 16) from (ev32.trans (pk_rem (a := τ) (d := 16) (by omega) (by decide) (by decide)))]
  refine sc_S (As := [.ref bs, .int (nI (τ % 16))]) (rest := []) ⟨hx, hb, hml, hown, hts⟩ (m_L_cell l bs nS xs (τ % 16) (by omega) hnS) hX hbl hbA hW.S (va_cwS 2 hts gL_law_L_cell rfl rfl rfl (by decide +kernel) ⟨Nat.le_of_ble_eq_true rfl, Nat.le_of_ble_eq_true rfl⟩) rfl hl.1 rfl (Nat.le_of_ble_eq_true rfl) dL_law_33 ⟨by show _ ≤ 1200130; omega, by show _ ≤ 5501080; omega⟩ (fun r33 => ?_)
  refine lv_iload_n hx hb dL_law_36 rfl (lv_at hl 0 rfl) ?_
  refine lv_bipush (v := 16) hx hb dL_law_37 (by decide) ?_
  refine lv_idiv hx hb dL_law_39 (by decide) ?_
  refine lv_topi (fun v39 ev39 => ?_)
  refine lv_bipush (v := 6) hx hb dL_law_40 (by decide) ?_
  refine lv_imul hx hb dL_law_42 ?_
  refine lv_topi (fun v42 ev42 => ?_)
  refine lv_ishr hx hb dL_law_43 ?_
  refine lv_topi (fun v43 ev43 => ?_)
  refine lv_sipush (v := 263) hx hb dL_law_44 (by decide) ?_
  refine lv_iload_n hx hb dL_law_47 rfl (lv_at hl 0 rfl) ?_
  refine lv_imul hx hb dL_law_48 ?_
  refine lv_topi (fun v48 ev48 => ?_)
  refine lv_iadd hx hb dL_law_49 ?_
  refine lv_topi (fun v49 ev49 => ?_)
  refine lv_istore (lv' := [(4, .int v49), (3, .int (nI τ)), (2, .ref b.sm), (1, .ref lo), (0, .ref bs)]) hx hb dL_law_50 hl (by decide) rfl (fun ls hl => ?_)
  refine lv_aload_n hx hb dL_law_52 rfl (lv_at hl 3 rfl) ?_
  refine lv_aload_n hx hb dL_law_53 rfl (lv_at hl 2 rfl) ?_
  refine lv_iload hx hb dL_law_54 (lv_at hl 0 rfl) ?_
  refine dw_SH (hh := [(600, 634, 635, 67)]) (As := [.int v49]) (rest := []) ⟨hx, hb, hml, hown, hts⟩ hK hZ hDS hW (fun a Lc2 fc2 Ls2 fs2 e1 e2 e3 e4 e5 e6 => m_L_act l hst g _ t lo Lc2 Ls2 fc2 fs2 a b o _ v49 e1 e2 e3 e4 e5 e6 hok (by omega)) (vx_cwSW 3 hts gL_law_L_act rfl rfl rfl (by decide +kernel) ⟨Nat.le_of_ble_eq_true rfl, Nat.le_of_ble_eq_true rfl⟩) rfl hl.1 rfl (Nat.le_of_ble_eq_true rfl) dL_law_56 ⟨by show _ ≤ 1200130; omega, by show _ ≤ 5501080; omega⟩ (fun r o2 b2 H locs hb2 hp hW => ?_)
  obtain ⟨rfl, hok⟩ := hp
  rw [← hb2] at hl
  have hn := hok.hn
  have hnv := hok.hnv
  have hd := hok.hd
  have hmul : o2.nv * o2.n ≤ 6 * 8 := Nat.mul_le_mul hnv hn
  refine lv_if_ne (tgt := 64) hx hb dL_law_59 (by decide) (fun _ => ?_) (fun h => absurd h (by decide))
  refine lv_aload_n hx hb dL_law_64 rfl (lv_at hl 3 rfl) ?_
  refine lv_iconst (v := 0) hx hb dL_law_65 (by decide) ?_
  refine u_count ⟨hx, hb, hml, hown, hts⟩ hst hK hZ hW hok (by omega) (k := 0) (by omega) (cwV 1 hts gL_law_X4_count rfl rfl rfl (by decide +kernel) ⟨Nat.le_of_ble_eq_true rfl, Nat.le_of_ble_eq_true rfl⟩) hl.1 (Nat.le_of_ble_eq_true rfl) dL_law_66 ⟨by show _ ≤ 1200130; omega, by show _ ≤ 5501080; omega⟩ (fun H locs hW => ?_)
  rw [show countO o2 0 = nI o2.d from rfl]
  refine lv_istore (lv' := [(5, .int (nI o2.d)), (4, .int v49), (3, .int (nI τ)), (2, .ref b2.sm), (1, .ref lo), (0, .ref bs)]) hx hb dL_law_69 hl (by decide) rfl (fun ls hl => ?_)
  refine lv_aload_n hx hb dL_law_71 rfl (lv_at hl 4 rfl) ?_
  refine lv_iconst (v := 1) hx hb dL_law_72 (by decide) ?_
  refine u_count ⟨hx, hb, hml, hown, hts⟩ hst hK hZ hW hok (by omega) (k := 1) (by omega) (cwV 1 hts gL_law_X4_count rfl rfl rfl (by decide +kernel) ⟨Nat.le_of_ble_eq_true rfl, Nat.le_of_ble_eq_true rfl⟩) hl.1 (Nat.le_of_ble_eq_true rfl) dL_law_73 ⟨by show _ ≤ 1200130; omega, by show _ ≤ 5501080; omega⟩ (fun H locs hW => ?_)
  rw [show countO o2 1 = nI o2.n from rfl]
  refine lv_istore (lv' := [(6, .int (nI o2.n)), (5, .int (nI o2.d)), (4, .int v49), (3, .int (nI τ)), (2, .ref b2.sm), (1, .ref lo), (0, .ref bs)]) hx hb dL_law_76 hl (by decide) rfl (fun ls hl => ?_)
  refine lv_aload_n hx hb dL_law_78 rfl (lv_at hl 5 rfl) ?_
  refine lv_iconst (v := 2) hx hb dL_law_79 (by decide) ?_
  refine u_count ⟨hx, hb, hml, hown, hts⟩ hst hK hZ hW hok (by omega) (k := 2) (by omega) (cwV 1 hts gL_law_X4_count rfl rfl rfl (by decide +kernel) ⟨Nat.le_of_ble_eq_true rfl, Nat.le_of_ble_eq_true rfl⟩) hl.1 (Nat.le_of_ble_eq_true rfl) dL_law_80 ⟨by show _ ≤ 1200130; omega, by show _ ≤ 5501080; omega⟩ (fun H locs hW => ?_)
  rw [show countO o2 2 = nI o2.nv from rfl]
  refine lv_istore (lv' := [(7, .int (nI o2.nv)), (6, .int (nI o2.n)), (5, .int (nI o2.d)), (4, .int v49), (3, .int (nI τ)), (2, .ref b2.sm), (1, .ref lo), (0, .ref bs)]) hx hb dL_law_83 hl (by decide) rfl (fun ls hl => ?_)
  refine lv_iload hx hb dL_law_85 (lv_at hl 0 rfl) ?_
  refine lv_bipush (v := 7) hx hb dL_law_87 (by decide) ?_
  refine w_mna (N := o2.nv) (M := 7) hx hb hown (hts (.classLink RL 90 "[[I") (by decide +kernel)) (hts (.arrayClass .int) (by decide +kernel)) hK (fun _ h9 => Or.inr h9) hW (by omega) (by omega) (by show _ ≤ 1200130; omega) (by show _ ≤ 5501080; omega) dL_law_89 (aboutO o2) (fun q8 fa Lw8 fw8 H hsq8 hnq8 T8 hW => ?_)
  refine lv_astore (lv' := [(8, .ref q8), (7, .int (nI o2.nv)), (6, .int (nI o2.n)), (5, .int (nI o2.d)), (4, .int v49), (3, .int (nI τ)), (2, .ref b2.sm), (1, .ref lo), (0, .ref bs)]) hx hb dL_law_93 hl (by decide) rfl (fun ls hl => ?_)
  refine lv_iload hx hb dL_law_95 (lv_at hl 1 rfl) ?_
  refine lv_iload hx hb dL_law_97 (lv_at hl 2 rfl) ?_
  refine w_mna (N := o2.nv) (M := o2.n) hx hb hown (hts (.classLink RL 90 "[[I") (by decide +kernel)) (hts (.arrayClass .int) (by decide +kernel)) hK (fun _ h9 => Or.inr h9) hW (by omega) (by omega) (by show _ ≤ 1200130; omega) (by show _ ≤ 5501080; omega) dL_law_99 (wtsO o2) (fun q9 fb Lw9 fw9 H hsq9 hnq9 T9 hW => ?_)
  have hD : ∀ u v, u < o2.nv → v < o2.nv → fa u ≠ fb v := fun u v hu hv z => hnq9 v hv (z ▸ (T8.2.2.2 u hu).1)
  replace T8 := T8.grow hsq9
  refine lv_astore (lv' := [(9, .ref q9), (8, .ref q8), (7, .int (nI o2.nv)), (6, .int (nI o2.n)), (5, .int (nI o2.d)), (4, .int v49), (3, .int (nI τ)), (2, .ref b2.sm), (1, .ref lo), (0, .ref bs)]) hx hb dL_law_103 hl (by decide) rfl (fun ls hl => ?_)
  refine lv_iconst (v := 0) hx hb dL_law_105 (by decide) ?_
  refine lv_istore (lv' := [(10, .int 0), (9, .ref q9), (8, .ref q8), (7, .int (nI o2.nv)), (6, .int (nI o2.n)), (5, .int (nI o2.d)), (4, .int v49), (3, .int (nI τ)), (2, .ref b2.sm), (1, .ref lo), (0, .ref bs)]) hx hb dL_law_106 hl (by decide) rfl (fun ls hl => ?_)
  refine lv_iconst (v := 0) hx hb dL_law_108 (by decide) ?_
  refine lv_istore (lv' := [(11, .int 0), (10, .int 0), (9, .ref q9), (8, .ref q8), (7, .int (nI o2.nv)), (6, .int (nI o2.n)), (5, .int (nI o2.d)), (4, .int v49), (3, .int (nI τ)), (2, .ref b2.sm), (1, .ref lo), (0, .ref bs)]) hx hb dL_law_109 hl (by decide) rfl (fun ls hl => ?_)
  refine lv_iconst (v := 0) hx hb dL_law_111 (by decide) ?_
  refine lv_istore (lv' := [(12, .int 0), (11, .int 0), (10, .int 0), (9, .ref q9), (8, .ref q8), (7, .int (nI o2.nv)), (6, .int (nI o2.n)), (5, .int (nI o2.d)), (4, .int v49), (3, .int (nI τ)), (2, .ref b2.sm), (1, .ref lo), (0, .ref bs)]) hx hb dL_law_112 hl (by decide) rfl (fun ls hl => ?_)
  refine lv_iconst (v := 0) hx hb dL_law_114 (by decide) ?_
  refine lv_istore (lv' := [(13, .int 0), (12, .int 0), (11, .int 0), (10, .int 0), (9, .ref q9), (8, .ref q8), (7, .int (nI o2.nv)), (6, .int (nI o2.n)), (5, .int (nI o2.d)), (4, .int v49), (3, .int (nI τ)), (2, .ref b2.sm), (1, .ref lo), (0, .ref bs)]) hx hb dL_law_115 hl (by decide) rfl (fun ls hl => ?_)
  refine lv_iconst (v := 0) hx hb dL_law_117 (by decide) ?_
  refine lv_istore (lv' := [(14, .int 0), (13, .int 0), (12, .int 0), (11, .int 0), (10, .int 0), (9, .ref q9), (8, .ref q8), (7, .int (nI o2.nv)), (6, .int (nI o2.n)), (5, .int (nI o2.d)), (4, .int v49), (3, .int (nI τ)), (2, .ref b2.sm), (1, .ref lo), (0, .ref bs)]) hx hb dL_law_118 hl (by decide) rfl (fun ls hl => ?_)
  exact W.widen (by omega) (by omega) (kk o2 b2 _ _ q8 q9 fa fb v49 H locs ls hb2 hok T8 T9 hD hW (lv_sub hl [0, 1, 2, 3, 4, 5, 6, 7, 8, 9, 10, 11, 12, 13, 14] rfl))
section USM
variable {p : Program} {l : Launch} {e : Env} {R : Room} {s : State} {m : MethodId} {args : Array Value} {below : List Frame} {meth : Method} {c : Code} {H : Heap} {locs : List Loc} {cells slots : Nat} {Q : State → Prop}
variable {cc : ByteArray} {pc : Nat} {ls : Array Slot} {rest st0 : List Value} {g : GG} {L L0 Lw : List Nat} {f fw : Nat → va_E} {t lo bb : Nat} {b : SmA} {o : OB} {Ts ws : List Cond} {own C : String} {bytes : ByteArray} {maxL nL n index M : Nat} {ret : Option FieldType}
theorem u_isSame {d0 : Drawn} (hd0 : s.drawn.sameBut d0 lw_cs) (S : CallFix p m c cc nL (s.setDrawn d0) args Ts own) (hst : l.stackTraces = false) (hK : KK g (s.setDrawn d0)) (hZ : ZZ L0 (s.setDrawn d0).heap.size (s.setDrawn d0)) (hDS : DS t L0 (s.setDrawn d0).heap.size (s.setDrawn d0)) (hW : WD g t lo b o o Lw fw (AA L0 s.heap.size) s.heap H locs) (hok : OkO M o) (hMb : M + 300 < 2 ^ 29)
    (cw : CallW R (s.setDrawn d0) args own RX5 index yX5_isSame bytes maxL ret wsX5_isSame ({ frames := 9, cells := 400, slots := 3000, locals := 200 }) 400 3000 1)
    (hsize : ls.size = nL) (hWr : (rest.map fun v => v.category).sum ≤ 8) (hdg : decode cc pc = .ok (.invokevirtual index, 3)) (hcs : cells + 400 ≤ R.cells ∧ slots + 3000 ≤ R.slots)
    (kk : ∀ (H1 : Heap) (locs1 : List Loc) (d1 : Drawn), s.drawn.sameBut d1 lw_cs → va_S (AA L0 s.heap.size) s.heap H1 locs1 → W p l e R (s.setDrawn d1) m args below meth c H1 locs1 (cells + 400) (slots + 3000) Q (F0 m (pc + 3) ls (.int 1 :: rest))) : W p l e R (s.setDrawn d0) m args below meth c H locs cells slots Q (F0 m pc ls (.ref lo :: .ref b.sm :: rest)) := by
  obtain ⟨a, Lc, fc, Ls, fs, hlo, hY, h, hNc, hNs, hNw, dcs, dcw, dsw, hPc, hPs, hPw, hAc, hAs, hAw, hS⟩ := hW
  refine va_calliD hd0 (va_runV_D (As := [.ref lo]) S (m_X5_isSame l hst g H.size t lo Lc Ls fc fs a b o M hlo hY h hNc hNs dcs hok hMb) cw ⟨dq_blind, pg_recv hK hPs h.L_sm h.f_sm rfl, fun U hU hW => ⟨rfl, ⟨by rw [hU], by rw [hU]; exact hPc, by rw [hU]; exact hPs⟩, KK.warm hW hK, ZZ.step2 hZ hS hU hW (al_app hAc hAs), DS.step hDS hS hU hW (al_app hAc hAs)⟩⟩ rfl rfl hsize rfl (lv_room hWr) hdg hcs) hS (AA_old (al_app hAc hAs)) (AA_free (al_app hAc hAs) (fun _ h => Or.inr h) hS) (fun r u T H1 locs1 ht _ hw hB hz hk hS1 d1 hd1 => ?_)
  have hw : r = 1 := hw
  subst hw
  exact kk H1 locs1 d1 hd1 hS1
end USM
set_option maxHeartbeats 8000000 in
set_option maxRecDepth 100000 in
theorem law_loop {p : Program} {l : Launch} {e : Env} {s : State} {m : MethodId} {below : List Frame} {meth : Method} {c : Code} {g : GG} {t lo bs nS : Nat} {xs : Nat → Int32} (C : LK p l s m #[Value.ref bs] c cL_law 32 wsL_law RL g t []) (hX : va_X bs nS xs s s.heap) (hbl : bs < s.heap.size) (hnS : nS < 1000) (hr : meth.sig.returnType = ret) (hlk : meth.locks = false) : ∀ (n τ : Nat), 30 ≤ τ + n → τ ≤ 30 → ∀ (d0 : Drawn) (o : OB) (b : SmA) (H : Heap) (locs : List Loc) (ls : Array Slot) (cells slots : Nat), s.drawn.sameBut d0 lw_cs → OkO (11010 + 300 * τ) o → WD g t lo b o o [] (fun _ => eO 0 []) (AA [] s.heap.size) s.heap H locs → lv_has ls 32 [(3, .int (nI τ)), (2, .ref b.sm), (1, .ref lo), (0, .ref bs)] → cells ≤ 2000 + 3000 * τ → slots ≤ 60000 + 20000 * τ → W p l e room_1 (s.setDrawn d0) m #[Value.ref bs] below meth c H locs cells slots (lw_Z below #[Value.ref bs] s) (F0 m 22 ls []) := by
  have hbA : ¬ AA [] s.heap.size bs := fun z => z.elim (fun h9 => absurd h9 List.not_mem_nil) (fun h9 => by omega)
  intro n
  induction n with
  | zero =>
    intro τ hn hτ d0 o b H locs ls cells slots hd0 hok hW hl hc hs
    obtain ⟨hx, hb, hml, hts, hown, hK, hZ, hDS, hst⟩ := C.drawn d0
    obtain rfl : τ = 30 := by omega
    refine lv_iload_n hx hb dL_law_22 rfl (lv_at hl 0 rfl) ?_
    refine lv_bipush (v := 30) hx hb dL_law_23 (by decide) ?_
    refine lv_icmp_ge (tgt := 1177) hx hb dL_law_25 (by decide) (fun _ => ?_) (fun h9 => absurd (nI_le (a := 30) (b := 30) (by omega) (by omega)) h9)
    refine lv_aload_n hx hb dL_law_1177 rfl (lv_at hl 1 rfl) ?_
    refine lv_aload_n hx hb dL_law_1178 rfl (lv_at hl 2 rfl) ?_
    refine u_isSame (rest := []) hd0 ⟨hx, hb, hml, hown, hts⟩ hst hK hZ hDS hW hok (by omega) (cwV 1 hts gL_law_X5_isSame rfl rfl rfl (by decide +kernel) ⟨Nat.le_of_ble_eq_true rfl, Nat.le_of_ble_eq_true rfl⟩) hl.1 (Nat.le_of_ble_eq_true rfl) dL_law_1179 ⟨by show _ ≤ 1200130; omega, by show _ ≤ 5501080; omega⟩ (fun H locs d1 hd1 hS => ?_)
    refine va_forget (fun q hq => (hS.2.2 q hq).elim (fun h9 => absurd h9 List.not_mem_nil) (fun h9 => h9)) ?_
    exact W.widen (by omega) (by omega) (lw_ret hd1 hx hb hr hlk dL_law_1182)
  | succ n ih =>
    intro τ hn hτ d0 o b H locs ls cells slots hd0 hok hW hl hc hs
    obtain ⟨hx, hb, hml, hts, hown, hK, hZ, hDS, hst⟩ := C.drawn d0
    by_cases h30 : τ = 30
    · exact ih τ (by omega) hτ d0 o b H locs ls cells slots hd0 hok hW hl hc hs
    refine lv_iload_n hx hb dL_law_22 rfl (lv_at hl 0 rfl) ?_
    refine lv_bipush (v := 30) hx hb dL_law_23 (by decide) ?_
    refine lv_icmp_ge (tgt := 1177) hx hb dL_law_25 (by decide) (fun h9 => by exfalso; have := (nI_leI (a := 30) (b := τ) (by omega) (by omega)).mp h9; omega) (fun _ => ?_)
    refine lw_A (C.drawn d0) hok (by omega) hW hl (by omega) hnS hX hbl hbA (by omega) (by omega) (fun o2 b2 Lw fw q8 q9 fa fb x4 H locs ls hb2 hok T8 T9 hD hW hl => ?_)
    refine lw_B (C.drawn d0) hok (by omega) hW hl T8 T9 hD (by omega) (by omega) (fun fw2 H locs ls T8 T9 hW hl => ?_)
    refine lw_C (fa := fa) (fb := fb) hd0 C hok (by omega) hW hl (by omega) (by omega) (fun d1 hd1 H locs ls hW hl => ?_)
    refine lw_D (C.drawn d1) hok (by omega) hW hl T8 T9 hD (by omega) (by omega) (fun H locs ls hW hl => ?_)
    refine lw_E (fa := fa) (fb := fb) (C.drawn d1) hok (by omega) hW hl (by omega) (by omega) (fun H locs ls hW hl => ?_)
    refine lw_F (C.drawn d1) hok (by omega) hW hl T8 T9 hD (by omega) (by omega) (fun q17 z fw3 H locs ls T8 T9 hq hfz hz hW hl => ?_)
    refine lw_G (fa := fa) (fb := fb) (C.drawn d1) hok (by omega) hW hl (by omega) (by omega) (fun ov H locs ls hov hW hl => ?_)
    refine lw_H (fa := fa) (fb := fb) (C.drawn d1) hok (by omega) hW hl hov (by omega) (by omega) (fun H locs ls hW hl => ?_)
    have hok2 := hok.day (by omega)
    refine lw_I (fa := fa) (fb := fb) (C.drawn d1) hok2 (by omega) hW hl hq hfz hz (by omega) (by omega) (fun H locs ls hW hl => ?_)
    refine lw_J (C.drawn d1) hok2 (by omega) hW hl T8 T9 hD (hok.mono (by omega)) (by omega) (by omega) (fun H locs ls hW hl => ?_)
    obtain ⟨hx, hb, hml, hts, hown, hK, hZ, hDS, hst⟩ := C.drawn d1
    refine lv_iinc (v := nI (τ + 1)) (lv' := (3, .int (nI (τ + 1))) :: _) hx hb dL_law_1171 hl (k := 6) rfl (nI_1 _) (by decide) rfl (fun ls hl => ?_)
    refine lv_goto (tgt := 22) hx hb dL_law_1174 (by decide) ?_
    exact ih (τ + 1) (by omega) (by omega) d1 _ b2 H locs ls _ _ hd1 (hok2.mono (by omega)) hW.drop (lv_sub hl [0, 7, 8, 9] rfl) (by omega) (by omega)
