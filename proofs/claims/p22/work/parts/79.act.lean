/-! ===== something that a number chooses, done to both ===== -/
theorem mul_0l (n : Nat) : nI 0 * nI n = 0 := by rw [pk_mul, Nat.zero_mul]; rfl
theorem mul_0r (n : Nat) : nI n * nI 0 = 0 := by rw [pk_mul, Nat.mul_zero]; rfl
theorem from_ne {u k n : Nat} (hu : u < n) (hk : k < n - 1) : u ≠ (u + 1 + k) % n := by
  by_cases h : u + 1 + k < n
  · rw [Nat.mod_eq_of_lt h]; omega
  · rw [Nat.mod_eq_sub_mod (by omega), Nat.mod_eq_of_lt (by omega)]; omega
theorem wt_self {vs : Nat → VV} {V W : VV} {u j : Nat} {x : Int32} : ((fun z => if z = u then setW V (upd W.2.2.2.2 j x) else vs z) u).2.2.2.2 j = x := by
  show ((if u = u then setW V (upd W.2.2.2.2 j x) else vs u) : VV).2.2.2.2 j = x
  rw [if_pos rfl]
  exact pk_us
/-- the share by hand, after i weights -/
def shV (o : OB) (u w i : Nat) : Nat → VV := fun z => if z = u then coV (setW (o.vs u) (mapN (fun j x => (x + (o.vs w).2.2.2.2 j) / 2) (o.vs u).2.2.2.2 i)) ((o.vs u).2.2.1 - 5) else if z = w then buyW (o.vs w) else o.vs z
theorem shV_0 {o : OB} {n u w : Nat} (hne : u ≠ w) : SameV n (fun z => if z = w then coV ((fun z => if z = u then coV (o.vs u) ((o.vs u).2.2.1 - 5) else o.vs z) w) (((fun z => if z = u then coV (o.vs u) ((o.vs u).2.2.1 - 5) else o.vs z) w).2.2.1 + 5) else (fun z => if z = u then coV (o.vs u) ((o.vs u).2.2.1 - 5) else o.vs z) z) (shV o u w 0) := fun v _ => by
  unfold shV
  by_cases e1 : v = u
  · subst e1
    simp only [if_neg hne, if_true]
    exact ⟨fun q _ => rfl, fun q _ => by rw [mapN_0]; rfl⟩
  · by_cases e2 : v = w
    · subst e2
      simp only [if_neg e1, if_true]
      exact ⟨fun q _ => rfl, fun q _ => rfl⟩
    · simp [if_neg e1, if_neg e2]
theorem shV_8 {o : OB} {n u w : Nat} (hne : u ≠ w) : SameV n (shV o u w 8) (shO o u w).vs := fun v _ => by
  show (∀ q, q < 3 → vr3 (shV o u w 8 v) q = vr3 (if v = u then buyU (o.vs u) (o.vs w) else if v = w then buyW (o.vs w) else o.vs v) q) ∧ ∀ q, q < 8 → (shV o u w 8 v).2.2.2.2 q = (if v = u then buyU (o.vs u) (o.vs w) else if v = w then buyW (o.vs w) else o.vs v).2.2.2.2 q
  unfold shV
  by_cases e1 : v = u
  · simp only [if_pos e1]
    exact ⟨fun q _ => rfl, fun q _ => rfl⟩
  · simp [if_neg e1]
theorem shV_s {o : OB} {n u w i : Nat} (hi : i < 8) (hne : u ≠ w) {x : Int32} (hx : x = ((shV o u w i u).2.2.2.2 i + (shV o u w i w).2.2.2.2 i) / 2) : SameV n (fun z => if z = u then setW (shV o u w i u) (upd (shV o u w i u).2.2.2.2 i x) else shV o u w i z) (shV o u w (i + 1)) := fun v _ => by
  have a1 : shV o u w i u = coV (setW (o.vs u) (mapN (fun j x => (x + (o.vs w).2.2.2.2 j) / 2) (o.vs u).2.2.2.2 i)) ((o.vs u).2.2.1 - 5) := if_pos rfl
  have a2 : shV o u w i w = buyW (o.vs w) := by unfold shV; rw [if_neg hne.symm, if_pos rfl]
  by_cases e1 : v = u
  · subst e1
    have a3 : shV o v w (i + 1) v = coV (setW (o.vs v) (mapN (fun j x => (x + (o.vs w).2.2.2.2 j) / 2) (o.vs v).2.2.2.2 (i + 1))) ((o.vs v).2.2.1 - 5) := if_pos rfl
    simp only [if_true]
    rw [a3]
    rw [a1, a2] at hx
    rw [a1]
    refine ⟨fun q _ => rfl, fun q _ => ?_⟩
    show upd (mapN (fun j x => (x + (o.vs w).2.2.2.2 j) / 2) (o.vs v).2.2.2.2 i) i x q = mapN (fun j x => (x + (o.vs w).2.2.2.2 j) / 2) (o.vs v).2.2.2.2 (i + 1) q
    rw [mapN_s (F := fun j x => (x + (o.vs w).2.2.2.2 j) / 2) (by rw [hx]; show (mapN _ _ _ _ + _) / 2 = _; rw [mapN_at]; rfl)]
  · simp only [if_neg e1]
    have a4 : shV o u w i v = shV o u w (i + 1) v := by unfold shV; rw [if_neg e1, if_neg e1]
    rw [a4]
    first | exact ⟨fun q _ => rfl, fun q _ => rfl⟩ | simp
theorem shO_c {o : OB} {u w : Nat} (hne : u ≠ w) : ((shO o u w).vs u).2.2.1 = (o.vs u).2.2.1 - 5 := by
  show ((if u = u then buyU (o.vs u) (o.vs w) else if u = w then buyW (o.vs w) else o.vs u) : VV).2.2.1 = _
  rw [if_pos rfl]; rfl
set_option maxHeartbeats 16000000 in
set_option maxRecDepth 100000 in
theorem m_L_act (l : Launch) (hst : l.stackTraces = false) (g : GG) (sz t lo : Nat) (Lc Ls : List Nat) (fc fs : Nat → va_E) (a : LgA) (b : SmA) (o : OB) (M : Nat) (x : Int32) (hlo : a.lo = lo) (hY : SyO a g t Lc fc o) (hMs : SimO b g Ls fs o) (hNc : Lc.Nodup) (hNs : Ls.Nodup) (dcs : ∀ x ∈ Lc, x ∉ Ls) (hok : OkO M o) (hM : M + 300 < 2 ^ 29) : DW l g yL_act wsL_act 9 200 20 1000 t lo Lc fc Ls fs sz [.ref lo, .ref b.sm, .int x] (fun r o2 => r = 1 ∧ OkO (M + 250) o2) := by
  refine DW.startH (As := [.int x]) (cc := cL_act) (maxL := 10) (hh := [(600, 634, 635, 67)]) (ret := .boolean) (by decide) rfl (by simp [lg_sl, Value.category]) hlo hY hMs hNc hNs dcs ?_
  intro p e s m args below meth c Q ls hx hb hml hts hown htab hK hZ hDS hW hl hend
  have hl : lv_has ls 10 [(0, .ref lo), (1, .ref b.sm), (2, .int x)] := hl
  have hi_X5 : ∀ w ∈ u_ws RX5 TX5 6, w ∈ wsL_act := by decide +kernel
  have hn := hok.hn
  have hnv := hok.hnv
  obtain ⟨H, eH⟩ : ∃ z, z = s.heap := ⟨_, rfl⟩
  obtain ⟨locs, elocs⟩ : ∃ z : List Loc, z = [] := ⟨_, rfl⟩
  have hW : WD g t lo b o o [] (fun _ => eO 0 []) (AA (Lc ++ Ls) s.heap.size) s.heap H locs := by rw [eH, elocs]; exact hW
  suffices hgo : W p l e ({ frames := 9, cells := 20, slots := 1000, locals := 200 } : Room) s m args below meth c H locs 0 0 Q (F0 m 0 ls []) by rw [eH, elocs] at hgo; exact hgo
  refine lv_iload_n hx hb dL_act_0 rfl (lv_at hl 2 rfl) ?_
  refine lv_iconst (v := 3) hx hb dL_act_1 (by decide) ?_
  refine lv_ishr hx hb dL_act_2 ?_
  refine lv_topi (fun v2 ev2 => ?_)
  refine lv_bipush (v := 12) hx hb dL_act_3 (by decide) ?_
  refine ro_S (As := [.int v2, .int (nI 12)]) (rest := []) ⟨hx, hb, hml, hown, hts⟩ (m_L_below l g (fun _ => eO 0 []) v2 12 (by omega) (by omega)) (va_cwS 2 hts gL_act_L_below rfl rfl rfl (by decide +kernel) ⟨Nat.le_of_ble_eq_true rfl, Nat.le_of_ble_eq_true rfl⟩) hK (PP.of (fun b hb => absurd hb List.not_mem_nil)) rfl hl.1 rfl (Nat.le_of_ble_eq_true rfl) dL_act_5 ⟨Nat.le_of_ble_eq_true rfl, Nat.le_of_ble_eq_true rfl⟩ (fun r5 hr5 => ?_)
  obtain ⟨k5, hk5, rfl⟩ := hr5
  refine lv_istore_n (lv' := [(3, .int (nI k5)), (0, .ref lo), (1, .ref b.sm), (2, .int x)]) hx hb dL_act_8 rfl hl (by decide) rfl (fun ls hl => ?_)
  refine lv_aload_n hx hb dL_act_9 rfl (lv_at hl 2 rfl) ?_
  obtain ⟨Ls9, fs9, hM9, hPs9⟩ := hW.sim
  refine pg_get (C := RX5) (T := TX5) (N := 6) hx hb hts hi_X5 hown hK hPs9 hM9.1 hM9.2.1 rfl 3 (by decide) (hts (.fieldLink RL 24 "BarometerLeagueLaw$Sim" "signs" "[[I") (by decide +kernel)) (fun _ h9 => h9) rfl dL_act_10 ?_
  obtain ⟨Ls9, fs9, hM9, hPs9⟩ := hW.sim
  refine pg_alen hx hb hK hPs9 hM9.L_ss hM9.f_ss 4 rfl (v := nI o.n) rfl dL_act_13 ?_
  refine lv_istore (lv' := [(4, .int (nI o.n)), (3, .int (nI k5)), (0, .ref lo), (1, .ref b.sm), (2, .int x)]) hx hb dL_act_14 hl (by decide) rfl (fun ls hl => ?_)
  refine lv_aload_n hx hb dL_act_16 rfl (lv_at hl 3 rfl) ?_
  obtain ⟨Ls9, fs9, hM9, hPs9⟩ := hW.sim
  refine pg_get (C := RX5) (T := TX5) (N := 6) hx hb hts hi_X5 hown hK hPs9 hM9.1 hM9.2.1 rfl 4 (by decide) (hts (.fieldLink RL 28 "BarometerLeagueLaw$Sim" "villages" "[[I") (by decide +kernel)) (fun _ h9 => h9) rfl dL_act_17 ?_
  obtain ⟨Ls9, fs9, hM9, hPs9⟩ := hW.sim
  refine pg_alen hx hb hK hPs9 hM9.L_sv hM9.f_sv 4 rfl (v := nI o.nv) rfl dL_act_20 ?_
  refine lv_istore (lv' := [(5, .int (nI o.nv)), (4, .int (nI o.n)), (3, .int (nI k5)), (0, .ref lo), (1, .ref b.sm), (2, .int x)]) hx hb dL_act_21 hl (by decide) rfl (fun ls hl => ?_)
  refine lv_iload_n hx hb dL_act_23 rfl (lv_at hl 5 rfl) ?_
  refine lv_bipush (v := 12) hx hb dL_act_24 (by decide) ?_
  refine ro_S (As := [.int x, .int (nI 12)]) (rest := []) ⟨hx, hb, hml, hown, hts⟩ (m_L_below l g (fun _ => eO 0 []) x 12 (by omega) (by omega)) (va_cwS 2 hts gL_act_L_below rfl rfl rfl (by decide +kernel) ⟨Nat.le_of_ble_eq_true rfl, Nat.le_of_ble_eq_true rfl⟩) hK (PP.of (fun b hb => absurd hb List.not_mem_nil)) rfl hl.1 rfl (Nat.le_of_ble_eq_true rfl) dL_act_26 ⟨Nat.le_of_ble_eq_true rfl, Nat.le_of_ble_eq_true rfl⟩ (fun r26 hr26 => ?_)
  obtain ⟨k26, hk26, rfl⟩ := hr26
  by_cases k29_0 : k26 = 0
  · have q : (nI k26).toInt = 0 := by rw [k29_0]; rfl
    refine lv_tableIn (off := 55) (tgt := 84) hx hb dL_act_29 (by rw [q]; decide) (by rw [q]; decide) (by rw [q]; rfl) (by decide) ?_
    refine lv_aload_n hx hb dL_act_84 rfl (lv_at hl 4 rfl) ?_
    obtain ⟨Ls9, fs9, hM9, hPs9⟩ := hW.sim
    refine pg_get (C := RX5) (T := TX5) (N := 6) hx hb hts hi_X5 hown hK hPs9 hM9.1 hM9.2.1 rfl 1 (by decide) (hts (.fieldLink RL 31 "BarometerLeagueLaw$Sim" "glass" "[I") (by decide +kernel)) (fun _ h9 => h9) rfl dL_act_85 ?_
    refine lv_iload_n hx hb dL_act_88 rfl (lv_at hl 2 rfl) ?_
    obtain ⟨Ls9, fs9, hM9, hPs9⟩ := hW.sim
    refine pn_iald (h := o.gl) (j := k5) hx hb hK hPs9 hM9.L_sg hM9.f_sg rfl (by omega) (by omega) dL_act_89 ?_
    refine lv_istore (lv' := [(6, .int (o.gl k5)), (5, .int (nI o.nv)), (4, .int (nI o.n)), (3, .int (nI k5)), (0, .ref lo), (1, .ref b.sm), (2, .int x)]) hx hb dL_act_90 hl (by decide) rfl (fun ls hl => ?_)
    refine lv_aload_n hx hb dL_act_92 rfl (lv_at hl 5 rfl) ?_
    obtain ⟨Ls9, fs9, hM9, hPs9⟩ := hW.sim
    refine pg_get (C := RX5) (T := TX5) (N := 6) hx hb hts hi_X5 hown hK hPs9 hM9.1 hM9.2.1 rfl 1 (by decide) (hts (.fieldLink RL 31 "BarometerLeagueLaw$Sim" "glass" "[I") (by decide +kernel)) (fun _ h9 => h9) rfl dL_act_93 ?_
    refine lv_iload_n hx hb dL_act_96 rfl (lv_at hl 3 rfl) ?_
    refine lv_iload_n hx hb dL_act_97 rfl (lv_at hl 6 rfl) ?_
    refine lv_iconst (v := 5) hx hb dL_act_98 (by decide) ?_
    refine lv_ishr hx hb dL_act_99 ?_
    refine lv_topi (fun v99 ev99 => ?_)
    refine lv_bipush (v := 61) hx hb dL_act_100 (by decide) ?_
    refine ro_S (As := [.int v99, .int (nI 61)]) (rest := [.int (nI k5), .ref b.sg]) ⟨hx, hb, hml, hown, hts⟩ (m_L_below l g (fun _ => eO 0 []) v99 61 (by omega) (by omega)) (va_cwS 2 hts gL_act_L_below rfl rfl rfl (by decide +kernel) ⟨Nat.le_of_ble_eq_true rfl, Nat.le_of_ble_eq_true rfl⟩) hK (PP.of (fun b hb => absurd hb List.not_mem_nil)) rfl hl.1 rfl (Nat.le_of_ble_eq_true rfl) dL_act_102 ⟨Nat.le_of_ble_eq_true rfl, Nat.le_of_ble_eq_true rfl⟩ (fun r102 hr102 => ?_)
    obtain ⟨k102, hk102, rfl⟩ := hr102
    refine w_sst (os2 := ((o.d, o.n, o.nv, upd o.gl k5 (nI k102), o.rn, o.kd, o.nu, o.vs) : OB)) hx hb hK hW (j := k5) rfl (sw_glass (by omega)) dL_act_105 (fun H locs hW => ?_)
    refine lv_aload_n hx hb dL_act_106 rfl (lv_at hl 4 rfl) ?_
    refine lv_iload_n hx hb dL_act_107 rfl (lv_at hl 3 rfl) ?_
    refine lv_aload_n hx hb dL_act_108 rfl (lv_at hl 5 rfl) ?_
    obtain ⟨Ls9, fs9, hM9, hPs9⟩ := hW.sim
    refine pg_get (C := RX5) (T := TX5) (N := 6) hx hb hts hi_X5 hown hK hPs9 hM9.1 hM9.2.1 rfl 1 (by decide) (hts (.fieldLink RL 31 "BarometerLeagueLaw$Sim" "glass" "[I") (by decide +kernel)) (fun _ h9 => h9) rfl dL_act_109 ?_
    refine lv_iload_n hx hb dL_act_112 rfl (lv_at hl 3 rfl) ?_
    obtain ⟨Ls9, fs9, hM9, hPs9⟩ := hW.sim
    refine pn_iald (h := upd o.gl k5 (nI k102)) (j := k5) hx hb hK hPs9 hM9.L_sg hM9.f_sg rfl (by omega) (by omega) dL_act_113 ?_
    rw [pk_us]
    refine u_setGlass ⟨hx, hb, hml, hown, hts⟩ hst hK hZ hW hok (by omega) (j := k5) (k := k102) (by omega) (by omega) (cwV 2 hts gL_act_X4_setGlass rfl rfl rfl (by decide +kernel) ⟨Nat.le_of_ble_eq_true rfl, Nat.le_of_ble_eq_true rfl⟩) hl.1 (Nat.le_of_ble_eq_true rfl) dL_act_114 ⟨Nat.le_of_ble_eq_true rfl, Nat.le_of_ble_eq_true rfl⟩ (fun H locs hW => ?_)
    refine lv_iload hx hb dL_act_117 (lv_at hl 0 rfl) ?_
    refine lv_icmp_ne (tgt := 126) hx hb dL_act_119 (by decide) (fun h => absurd rfl h) (fun _ => ?_)
    refine lv_iconst (v := 1) hx hb dL_act_122 (by decide) ?_
    refine lv_goto (tgt := 127) hx hb dL_act_123 (by decide) ?_
    exact hend 1 ((o.d, o.n, o.nv, upd o.gl k5 (nI k102), o.rn, o.kd, o.nu, o.vs) : OB) b _ _ H locs _ _ _ _ rfl ⟨rfl, (ok_glass hok (by omega)).mono (by omega)⟩ hW rfl (Nat.le_of_ble_eq_true rfl) (Nat.le_of_ble_eq_true rfl) dL_act_127
  have q29_0 : (nI k26).toInt ≠ 0 := by rw [nI_toInt (by omega)]; omega
  by_cases k29_1 : k26 = 1
  · have q : (nI k26).toInt = 1 := by rw [k29_1]; rfl
    refine lv_tableIn (off := 55) (tgt := 84) hx hb dL_act_29 (by rw [q]; decide) (by rw [q]; decide) (by rw [q]; rfl) (by decide) ?_
    refine lv_aload_n hx hb dL_act_84 rfl (lv_at hl 4 rfl) ?_
    obtain ⟨Ls9, fs9, hM9, hPs9⟩ := hW.sim
    refine pg_get (C := RX5) (T := TX5) (N := 6) hx hb hts hi_X5 hown hK hPs9 hM9.1 hM9.2.1 rfl 1 (by decide) (hts (.fieldLink RL 31 "BarometerLeagueLaw$Sim" "glass" "[I") (by decide +kernel)) (fun _ h9 => h9) rfl dL_act_85 ?_
    refine lv_iload_n hx hb dL_act_88 rfl (lv_at hl 2 rfl) ?_
    obtain ⟨Ls9, fs9, hM9, hPs9⟩ := hW.sim
    refine pn_iald (h := o.gl) (j := k5) hx hb hK hPs9 hM9.L_sg hM9.f_sg rfl (by omega) (by omega) dL_act_89 ?_
    refine lv_istore (lv' := [(6, .int (o.gl k5)), (5, .int (nI o.nv)), (4, .int (nI o.n)), (3, .int (nI k5)), (0, .ref lo), (1, .ref b.sm), (2, .int x)]) hx hb dL_act_90 hl (by decide) rfl (fun ls hl => ?_)
    refine lv_aload_n hx hb dL_act_92 rfl (lv_at hl 5 rfl) ?_
    obtain ⟨Ls9, fs9, hM9, hPs9⟩ := hW.sim
    refine pg_get (C := RX5) (T := TX5) (N := 6) hx hb hts hi_X5 hown hK hPs9 hM9.1 hM9.2.1 rfl 1 (by decide) (hts (.fieldLink RL 31 "BarometerLeagueLaw$Sim" "glass" "[I") (by decide +kernel)) (fun _ h9 => h9) rfl dL_act_93 ?_
    refine lv_iload_n hx hb dL_act_96 rfl (lv_at hl 3 rfl) ?_
    refine lv_iload_n hx hb dL_act_97 rfl (lv_at hl 6 rfl) ?_
    refine lv_iconst (v := 5) hx hb dL_act_98 (by decide) ?_
    refine lv_ishr hx hb dL_act_99 ?_
    refine lv_topi (fun v99 ev99 => ?_)
    refine lv_bipush (v := 61) hx hb dL_act_100 (by decide) ?_
    refine ro_S (As := [.int v99, .int (nI 61)]) (rest := [.int (nI k5), .ref b.sg]) ⟨hx, hb, hml, hown, hts⟩ (m_L_below l g (fun _ => eO 0 []) v99 61 (by omega) (by omega)) (va_cwS 2 hts gL_act_L_below rfl rfl rfl (by decide +kernel) ⟨Nat.le_of_ble_eq_true rfl, Nat.le_of_ble_eq_true rfl⟩) hK (PP.of (fun b hb => absurd hb List.not_mem_nil)) rfl hl.1 rfl (Nat.le_of_ble_eq_true rfl) dL_act_102 ⟨Nat.le_of_ble_eq_true rfl, Nat.le_of_ble_eq_true rfl⟩ (fun r102 hr102 => ?_)
    obtain ⟨k102, hk102, rfl⟩ := hr102
    refine w_sst (os2 := ((o.d, o.n, o.nv, upd o.gl k5 (nI k102), o.rn, o.kd, o.nu, o.vs) : OB)) hx hb hK hW (j := k5) rfl (sw_glass (by omega)) dL_act_105 (fun H locs hW => ?_)
    refine lv_aload_n hx hb dL_act_106 rfl (lv_at hl 4 rfl) ?_
    refine lv_iload_n hx hb dL_act_107 rfl (lv_at hl 3 rfl) ?_
    refine lv_aload_n hx hb dL_act_108 rfl (lv_at hl 5 rfl) ?_
    obtain ⟨Ls9, fs9, hM9, hPs9⟩ := hW.sim
    refine pg_get (C := RX5) (T := TX5) (N := 6) hx hb hts hi_X5 hown hK hPs9 hM9.1 hM9.2.1 rfl 1 (by decide) (hts (.fieldLink RL 31 "BarometerLeagueLaw$Sim" "glass" "[I") (by decide +kernel)) (fun _ h9 => h9) rfl dL_act_109 ?_
    refine lv_iload_n hx hb dL_act_112 rfl (lv_at hl 3 rfl) ?_
    obtain ⟨Ls9, fs9, hM9, hPs9⟩ := hW.sim
    refine pn_iald (h := upd o.gl k5 (nI k102)) (j := k5) hx hb hK hPs9 hM9.L_sg hM9.f_sg rfl (by omega) (by omega) dL_act_113 ?_
    rw [pk_us]
    refine u_setGlass ⟨hx, hb, hml, hown, hts⟩ hst hK hZ hW hok (by omega) (j := k5) (k := k102) (by omega) (by omega) (cwV 2 hts gL_act_X4_setGlass rfl rfl rfl (by decide +kernel) ⟨Nat.le_of_ble_eq_true rfl, Nat.le_of_ble_eq_true rfl⟩) hl.1 (Nat.le_of_ble_eq_true rfl) dL_act_114 ⟨Nat.le_of_ble_eq_true rfl, Nat.le_of_ble_eq_true rfl⟩ (fun H locs hW => ?_)
    refine lv_iload hx hb dL_act_117 (lv_at hl 0 rfl) ?_
    refine lv_icmp_ne (tgt := 126) hx hb dL_act_119 (by decide) (fun h => absurd rfl h) (fun _ => ?_)
    refine lv_iconst (v := 1) hx hb dL_act_122 (by decide) ?_
    refine lv_goto (tgt := 127) hx hb dL_act_123 (by decide) ?_
    exact hend 1 ((o.d, o.n, o.nv, upd o.gl k5 (nI k102), o.rn, o.kd, o.nu, o.vs) : OB) b _ _ H locs _ _ _ _ rfl ⟨rfl, (ok_glass hok (by omega)).mono (by omega)⟩ hW rfl (Nat.le_of_ble_eq_true rfl) (Nat.le_of_ble_eq_true rfl) dL_act_127
  have q29_1 : (nI k26).toInt ≠ 1 := by rw [nI_toInt (by omega)]; omega
  by_cases k29_2 : k26 = 2
  · have q : (nI k26).toInt = 2 := by rw [k29_2]; rfl
    refine lv_tableIn (off := 99) (tgt := 128) hx hb dL_act_29 (by rw [q]; decide) (by rw [q]; decide) (by rw [q]; rfl) (by decide) ?_
    refine lv_aload_n hx hb dL_act_128 rfl (lv_at hl 4 rfl) ?_
    obtain ⟨Ls9, fs9, hM9, hPs9⟩ := hW.sim
    refine pg_get (C := RX5) (T := TX5) (N := 6) hx hb hts hi_X5 hown hK hPs9 hM9.1 hM9.2.1 rfl 2 (by decide) (hts (.fieldLink RL 38 "BarometerLeagueLaw$Sim" "rain" "[Z") (by decide +kernel)) (fun _ h9 => h9) rfl dL_act_129 ?_
    refine lv_iload_n hx hb dL_act_132 rfl (lv_at hl 2 rfl) ?_
    obtain ⟨Ls9, fs9, hM9, hPs9⟩ := hW.sim
    refine pn_zald (h := o.rn) (j := k5) hx hb hK hPs9 hM9.L_sr hM9.f_sr rfl (by omega) (by omega) dL_act_133 ?_
    refine lv_istore (lv' := [(6, .int (o.rn k5)), (5, .int (nI o.nv)), (4, .int (nI o.n)), (3, .int (nI k5)), (0, .ref lo), (1, .ref b.sm), (2, .int x)]) hx hb dL_act_134 hl (by decide) rfl (fun ls hl => ?_)
    refine lv_aload_n hx hb dL_act_136 rfl (lv_at hl 5 rfl) ?_
    obtain ⟨Ls9, fs9, hM9, hPs9⟩ := hW.sim
    refine pg_get (C := RX5) (T := TX5) (N := 6) hx hb hts hi_X5 hown hK hPs9 hM9.1 hM9.2.1 rfl 2 (by decide) (hts (.fieldLink RL 38 "BarometerLeagueLaw$Sim" "rain" "[Z") (by decide +kernel)) (fun _ h9 => h9) rfl dL_act_137 ?_
    refine lv_iload_n hx hb dL_act_140 rfl (lv_at hl 3 rfl) ?_
    refine lv_iload_n hx hb dL_act_141 rfl (lv_at hl 6 rfl) ?_
    refine lv_bipush (v := 6) hx hb dL_act_142 (by decide) ?_
    refine lv_ishr hx hb dL_act_144 ?_
    refine lv_topi (fun v144 ev144 => ?_)
    refine lv_iconst (v := 3) hx hb dL_act_145 (by decide) ?_
    refine ro_S (As := [.int v144, .int (nI 3)]) (rest := [.int (nI k5), .ref b.sr]) ⟨hx, hb, hml, hown, hts⟩ (m_L_below l g (fun _ => eO 0 []) v144 3 (by omega) (by omega)) (va_cwS 2 hts gL_act_L_below rfl rfl rfl (by decide +kernel) ⟨Nat.le_of_ble_eq_true rfl, Nat.le_of_ble_eq_true rfl⟩) hK (PP.of (fun b hb => absurd hb List.not_mem_nil)) rfl hl.1 rfl (Nat.le_of_ble_eq_true rfl) dL_act_146 ⟨Nat.le_of_ble_eq_true rfl, Nat.le_of_ble_eq_true rfl⟩ (fun r146 hr146 => ?_)
    obtain ⟨k146, hk146, rfl⟩ := hr146
    refine lv_if_le (tgt := 156) hx hb dL_act_149 (by decide) (fun c149 => ?_) (fun c149 => ?_)
    · skip
      have c149 : k146 ≤ 0 := (nI_leI (a := k146) (b := 0) (by omega) (by omega)).mp (show nI k146 ≤ nI 0 from c149)
      refine lv_iconst (v := 0) hx hb dL_act_156 (by decide) ?_
      refine w_rain (v := false) hx hb hK hW (j := k5) rfl (by omega) dL_act_157 (fun H locs hW => ?_)
      refine lv_aload_n hx hb dL_act_158 rfl (lv_at hl 4 rfl) ?_
      refine lv_iload_n hx hb dL_act_159 rfl (lv_at hl 3 rfl) ?_
      refine lv_aload_n hx hb dL_act_160 rfl (lv_at hl 5 rfl) ?_
      obtain ⟨Ls9, fs9, hM9, hPs9⟩ := hW.sim
      refine pg_get (C := RX5) (T := TX5) (N := 6) hx hb hts hi_X5 hown hK hPs9 hM9.1 hM9.2.1 rfl 2 (by decide) (hts (.fieldLink RL 38 "BarometerLeagueLaw$Sim" "rain" "[Z") (by decide +kernel)) (fun _ h9 => h9) rfl dL_act_161 ?_
      refine lv_iload_n hx hb dL_act_164 rfl (lv_at hl 3 rfl) ?_
      obtain ⟨Ls9, fs9, hM9, hPs9⟩ := hW.sim
      refine pn_zald (h := upd o.rn k5 (b2i false)) (j := k5) hx hb hK hPs9 hM9.L_sr hM9.f_sr rfl (by omega) (by omega) dL_act_165 ?_
      rw [pk_us]
      refine u_setRain ⟨hx, hb, hml, hown, hts⟩ hst hK hZ hW hok (by omega) (j := k5) (bo := false) (by omega) (cwV 2 hts gL_act_X4_setRain rfl rfl rfl (by decide +kernel) ⟨Nat.le_of_ble_eq_true rfl, Nat.le_of_ble_eq_true rfl⟩) hl.1 (Nat.le_of_ble_eq_true rfl) dL_act_166 ⟨Nat.le_of_ble_eq_true rfl, Nat.le_of_ble_eq_true rfl⟩ (fun H locs hW => ?_)
      refine lv_iload hx hb dL_act_169 (lv_at hl 0 rfl) ?_
      refine lv_icmp_ne (tgt := 178) hx hb dL_act_171 (by decide) (fun h => absurd rfl h) (fun _ => ?_)
      refine lv_iconst (v := 1) hx hb dL_act_174 (by decide) ?_
      refine lv_goto (tgt := 179) hx hb dL_act_175 (by decide) ?_
      exact hend 1 ((o.d, o.n, o.nv, o.gl, upd o.rn k5 (b2i false), o.kd, o.nu, o.vs) : OB) b _ _ H locs _ _ _ _ rfl ⟨rfl, (ok_rain hok).mono (by omega)⟩ hW rfl (Nat.le_of_ble_eq_true rfl) (Nat.le_of_ble_eq_true rfl) dL_act_179
    · skip
      have c149 : ¬ k146 ≤ 0 := fun h => c149 ((nI_leI (a := k146) (b := 0) (by omega) (by omega)).mpr h)
      refine lv_iconst (v := 1) hx hb dL_act_152 (by decide) ?_
      refine lv_goto (tgt := 157) hx hb dL_act_153 (by decide) ?_
      refine w_rain (v := true) hx hb hK hW (j := k5) rfl (by omega) dL_act_157 (fun H locs hW => ?_)
      refine lv_aload_n hx hb dL_act_158 rfl (lv_at hl 4 rfl) ?_
      refine lv_iload_n hx hb dL_act_159 rfl (lv_at hl 3 rfl) ?_
      refine lv_aload_n hx hb dL_act_160 rfl (lv_at hl 5 rfl) ?_
      obtain ⟨Ls9, fs9, hM9, hPs9⟩ := hW.sim
      refine pg_get (C := RX5) (T := TX5) (N := 6) hx hb hts hi_X5 hown hK hPs9 hM9.1 hM9.2.1 rfl 2 (by decide) (hts (.fieldLink RL 38 "BarometerLeagueLaw$Sim" "rain" "[Z") (by decide +kernel)) (fun _ h9 => h9) rfl dL_act_161 ?_
      refine lv_iload_n hx hb dL_act_164 rfl (lv_at hl 3 rfl) ?_
      obtain ⟨Ls9, fs9, hM9, hPs9⟩ := hW.sim
      refine pn_zald (h := upd o.rn k5 (b2i true)) (j := k5) hx hb hK hPs9 hM9.L_sr hM9.f_sr rfl (by omega) (by omega) dL_act_165 ?_
      rw [pk_us]
      refine u_setRain ⟨hx, hb, hml, hown, hts⟩ hst hK hZ hW hok (by omega) (j := k5) (bo := true) (by omega) (cwV 2 hts gL_act_X4_setRain rfl rfl rfl (by decide +kernel) ⟨Nat.le_of_ble_eq_true rfl, Nat.le_of_ble_eq_true rfl⟩) hl.1 (Nat.le_of_ble_eq_true rfl) dL_act_166 ⟨Nat.le_of_ble_eq_true rfl, Nat.le_of_ble_eq_true rfl⟩ (fun H locs hW => ?_)
      refine lv_iload hx hb dL_act_169 (lv_at hl 0 rfl) ?_
      refine lv_icmp_ne (tgt := 178) hx hb dL_act_171 (by decide) (fun h => absurd rfl h) (fun _ => ?_)
      refine lv_iconst (v := 1) hx hb dL_act_174 (by decide) ?_
      refine lv_goto (tgt := 179) hx hb dL_act_175 (by decide) ?_
      exact hend 1 ((o.d, o.n, o.nv, o.gl, upd o.rn k5 (b2i true), o.kd, o.nu, o.vs) : OB) b _ _ H locs _ _ _ _ rfl ⟨rfl, (ok_rain hok).mono (by omega)⟩ hW rfl (Nat.le_of_ble_eq_true rfl) (Nat.le_of_ble_eq_true rfl) dL_act_179
  have q29_2 : (nI k26).toInt ≠ 2 := by rw [nI_toInt (by omega)]; omega
  by_cases k29_3 : k26 = 3
  · have q : (nI k26).toInt = 3 := by rw [k29_3]; rfl
    refine lv_tableIn (off := 99) (tgt := 128) hx hb dL_act_29 (by rw [q]; decide) (by rw [q]; decide) (by rw [q]; rfl) (by decide) ?_
    refine lv_aload_n hx hb dL_act_128 rfl (lv_at hl 4 rfl) ?_
    obtain ⟨Ls9, fs9, hM9, hPs9⟩ := hW.sim
    refine pg_get (C := RX5) (T := TX5) (N := 6) hx hb hts hi_X5 hown hK hPs9 hM9.1 hM9.2.1 rfl 2 (by decide) (hts (.fieldLink RL 38 "BarometerLeagueLaw$Sim" "rain" "[Z") (by decide +kernel)) (fun _ h9 => h9) rfl dL_act_129 ?_
    refine lv_iload_n hx hb dL_act_132 rfl (lv_at hl 2 rfl) ?_
    obtain ⟨Ls9, fs9, hM9, hPs9⟩ := hW.sim
    refine pn_zald (h := o.rn) (j := k5) hx hb hK hPs9 hM9.L_sr hM9.f_sr rfl (by omega) (by omega) dL_act_133 ?_
    refine lv_istore (lv' := [(6, .int (o.rn k5)), (5, .int (nI o.nv)), (4, .int (nI o.n)), (3, .int (nI k5)), (0, .ref lo), (1, .ref b.sm), (2, .int x)]) hx hb dL_act_134 hl (by decide) rfl (fun ls hl => ?_)
    refine lv_aload_n hx hb dL_act_136 rfl (lv_at hl 5 rfl) ?_
    obtain ⟨Ls9, fs9, hM9, hPs9⟩ := hW.sim
    refine pg_get (C := RX5) (T := TX5) (N := 6) hx hb hts hi_X5 hown hK hPs9 hM9.1 hM9.2.1 rfl 2 (by decide) (hts (.fieldLink RL 38 "BarometerLeagueLaw$Sim" "rain" "[Z") (by decide +kernel)) (fun _ h9 => h9) rfl dL_act_137 ?_
    refine lv_iload_n hx hb dL_act_140 rfl (lv_at hl 3 rfl) ?_
    refine lv_iload_n hx hb dL_act_141 rfl (lv_at hl 6 rfl) ?_
    refine lv_bipush (v := 6) hx hb dL_act_142 (by decide) ?_
    refine lv_ishr hx hb dL_act_144 ?_
    refine lv_topi (fun v144 ev144 => ?_)
    refine lv_iconst (v := 3) hx hb dL_act_145 (by decide) ?_
    refine ro_S (As := [.int v144, .int (nI 3)]) (rest := [.int (nI k5), .ref b.sr]) ⟨hx, hb, hml, hown, hts⟩ (m_L_below l g (fun _ => eO 0 []) v144 3 (by omega) (by omega)) (va_cwS 2 hts gL_act_L_below rfl rfl rfl (by decide +kernel) ⟨Nat.le_of_ble_eq_true rfl, Nat.le_of_ble_eq_true rfl⟩) hK (PP.of (fun b hb => absurd hb List.not_mem_nil)) rfl hl.1 rfl (Nat.le_of_ble_eq_true rfl) dL_act_146 ⟨Nat.le_of_ble_eq_true rfl, Nat.le_of_ble_eq_true rfl⟩ (fun r146 hr146 => ?_)
    obtain ⟨k146, hk146, rfl⟩ := hr146
    refine lv_if_le (tgt := 156) hx hb dL_act_149 (by decide) (fun c149 => ?_) (fun c149 => ?_)
    · skip
      have c149 : k146 ≤ 0 := (nI_leI (a := k146) (b := 0) (by omega) (by omega)).mp (show nI k146 ≤ nI 0 from c149)
      refine lv_iconst (v := 0) hx hb dL_act_156 (by decide) ?_
      refine w_rain (v := false) hx hb hK hW (j := k5) rfl (by omega) dL_act_157 (fun H locs hW => ?_)
      refine lv_aload_n hx hb dL_act_158 rfl (lv_at hl 4 rfl) ?_
      refine lv_iload_n hx hb dL_act_159 rfl (lv_at hl 3 rfl) ?_
      refine lv_aload_n hx hb dL_act_160 rfl (lv_at hl 5 rfl) ?_
      obtain ⟨Ls9, fs9, hM9, hPs9⟩ := hW.sim
      refine pg_get (C := RX5) (T := TX5) (N := 6) hx hb hts hi_X5 hown hK hPs9 hM9.1 hM9.2.1 rfl 2 (by decide) (hts (.fieldLink RL 38 "BarometerLeagueLaw$Sim" "rain" "[Z") (by decide +kernel)) (fun _ h9 => h9) rfl dL_act_161 ?_
      refine lv_iload_n hx hb dL_act_164 rfl (lv_at hl 3 rfl) ?_
      obtain ⟨Ls9, fs9, hM9, hPs9⟩ := hW.sim
      refine pn_zald (h := upd o.rn k5 (b2i false)) (j := k5) hx hb hK hPs9 hM9.L_sr hM9.f_sr rfl (by omega) (by omega) dL_act_165 ?_
      rw [pk_us]
      refine u_setRain ⟨hx, hb, hml, hown, hts⟩ hst hK hZ hW hok (by omega) (j := k5) (bo := false) (by omega) (cwV 2 hts gL_act_X4_setRain rfl rfl rfl (by decide +kernel) ⟨Nat.le_of_ble_eq_true rfl, Nat.le_of_ble_eq_true rfl⟩) hl.1 (Nat.le_of_ble_eq_true rfl) dL_act_166 ⟨Nat.le_of_ble_eq_true rfl, Nat.le_of_ble_eq_true rfl⟩ (fun H locs hW => ?_)
      refine lv_iload hx hb dL_act_169 (lv_at hl 0 rfl) ?_
      refine lv_icmp_ne (tgt := 178) hx hb dL_act_171 (by decide) (fun h => absurd rfl h) (fun _ => ?_)
      refine lv_iconst (v := 1) hx hb dL_act_174 (by decide) ?_
      refine lv_goto (tgt := 179) hx hb dL_act_175 (by decide) ?_
      exact hend 1 ((o.d, o.n, o.nv, o.gl, upd o.rn k5 (b2i false), o.kd, o.nu, o.vs) : OB) b _ _ H locs _ _ _ _ rfl ⟨rfl, (ok_rain hok).mono (by omega)⟩ hW rfl (Nat.le_of_ble_eq_true rfl) (Nat.le_of_ble_eq_true rfl) dL_act_179
    · skip
      have c149 : ¬ k146 ≤ 0 := fun h => c149 ((nI_leI (a := k146) (b := 0) (by omega) (by omega)).mpr h)
      refine lv_iconst (v := 1) hx hb dL_act_152 (by decide) ?_
      refine lv_goto (tgt := 157) hx hb dL_act_153 (by decide) ?_
      refine w_rain (v := true) hx hb hK hW (j := k5) rfl (by omega) dL_act_157 (fun H locs hW => ?_)
      refine lv_aload_n hx hb dL_act_158 rfl (lv_at hl 4 rfl) ?_
      refine lv_iload_n hx hb dL_act_159 rfl (lv_at hl 3 rfl) ?_
      refine lv_aload_n hx hb dL_act_160 rfl (lv_at hl 5 rfl) ?_
      obtain ⟨Ls9, fs9, hM9, hPs9⟩ := hW.sim
      refine pg_get (C := RX5) (T := TX5) (N := 6) hx hb hts hi_X5 hown hK hPs9 hM9.1 hM9.2.1 rfl 2 (by decide) (hts (.fieldLink RL 38 "BarometerLeagueLaw$Sim" "rain" "[Z") (by decide +kernel)) (fun _ h9 => h9) rfl dL_act_161 ?_
      refine lv_iload_n hx hb dL_act_164 rfl (lv_at hl 3 rfl) ?_
      obtain ⟨Ls9, fs9, hM9, hPs9⟩ := hW.sim
      refine pn_zald (h := upd o.rn k5 (b2i true)) (j := k5) hx hb hK hPs9 hM9.L_sr hM9.f_sr rfl (by omega) (by omega) dL_act_165 ?_
      rw [pk_us]
      refine u_setRain ⟨hx, hb, hml, hown, hts⟩ hst hK hZ hW hok (by omega) (j := k5) (bo := true) (by omega) (cwV 2 hts gL_act_X4_setRain rfl rfl rfl (by decide +kernel) ⟨Nat.le_of_ble_eq_true rfl, Nat.le_of_ble_eq_true rfl⟩) hl.1 (Nat.le_of_ble_eq_true rfl) dL_act_166 ⟨Nat.le_of_ble_eq_true rfl, Nat.le_of_ble_eq_true rfl⟩ (fun H locs hW => ?_)
      refine lv_iload hx hb dL_act_169 (lv_at hl 0 rfl) ?_
      refine lv_icmp_ne (tgt := 178) hx hb dL_act_171 (by decide) (fun h => absurd rfl h) (fun _ => ?_)
      refine lv_iconst (v := 1) hx hb dL_act_174 (by decide) ?_
      refine lv_goto (tgt := 179) hx hb dL_act_175 (by decide) ?_
      exact hend 1 ((o.d, o.n, o.nv, o.gl, upd o.rn k5 (b2i true), o.kd, o.nu, o.vs) : OB) b _ _ H locs _ _ _ _ rfl ⟨rfl, (ok_rain hok).mono (by omega)⟩ hW rfl (Nat.le_of_ble_eq_true rfl) (Nat.le_of_ble_eq_true rfl) dL_act_179
  have q29_3 : (nI k26).toInt ≠ 3 := by rw [nI_toInt (by omega)]; omega
  by_cases k29_4 : k26 = 4
  · have q : (nI k26).toInt = 4 := by rw [k29_4]; rfl
    refine lv_tableIn (off := 151) (tgt := 180) hx hb dL_act_29 (by rw [q]; decide) (by rw [q]; decide) (by rw [q]; rfl) (by decide) ?_
    refine lv_iload hx hb dL_act_180 (lv_at hl 1 rfl) ?_
    refine lv_bipush (v := 8) hx hb dL_act_182 (by decide) ?_
    refine lv_icmp_ne (tgt := 189) hx hb dL_act_184 (by decide) (fun c184 => ?_) (fun c184 => ?_)
    · skip
      have c184 : ¬ o.n = 8 := fun h => c184 ((nI_eq (a := o.n) (b := 8) (by omega) (by omega)).mpr h)
      refine lv_iload_n hx hb dL_act_189 rfl (lv_at hl 5 rfl) ?_
      refine lv_iconst (v := 4) hx hb dL_act_190 (by decide) ?_
      refine lv_ishr hx hb dL_act_191 ?_
      refine lv_topi (fun v191 ev191 => ?_)
      refine lv_bipush (v := 6) hx hb dL_act_192 (by decide) ?_
      refine ro_S (As := [.int v191, .int (nI 6)]) (rest := []) ⟨hx, hb, hml, hown, hts⟩ (m_L_below l g (fun _ => eO 0 []) v191 6 (by omega) (by omega)) (va_cwS 2 hts gL_act_L_below rfl rfl rfl (by decide +kernel) ⟨Nat.le_of_ble_eq_true rfl, Nat.le_of_ble_eq_true rfl⟩) hK (PP.of (fun b hb => absurd hb List.not_mem_nil)) rfl hl.1 rfl (Nat.le_of_ble_eq_true rfl) dL_act_194 ⟨Nat.le_of_ble_eq_true rfl, Nat.le_of_ble_eq_true rfl⟩ (fun r194 hr194 => ?_)
      obtain ⟨k194, hk194, rfl⟩ := hr194
      refine lv_istore (lv' := [(6, .int (nI k194)), (5, .int (nI o.nv)), (4, .int (nI o.n)), (3, .int (nI k5)), (0, .ref lo), (1, .ref b.sm), (2, .int x)]) hx hb dL_act_197 hl (by decide) rfl (fun ls hl => ?_)
      refine lv_iload_n hx hb dL_act_199 rfl (lv_at hl 6 rfl) ?_
      refine lv_bipush (v := 6) hx hb dL_act_200 (by decide) ?_
      refine lv_ishr hx hb dL_act_202 ?_
      refine lv_topi (fun v202 ev202 => ?_)
      refine lv_iload hx hb dL_act_203 (lv_at hl 0 rfl) ?_
      refine lv_if_ne (tgt := 213) hx hb dL_act_205 (by decide) (fun c205 => ?_) (fun c205 => ?_)
      · skip
        have c205 : ¬ k194 = 0 := fun h => c205 ((nI_eq (a := k194) (b := 0) (by omega) (by omega)).mpr h)
        refine lv_bipush (v := 61) hx hb dL_act_213 (by decide) ?_
        refine ro_S (As := [.int v202, .int (nI 61)]) (rest := []) ⟨hx, hb, hml, hown, hts⟩ (m_L_below l g (fun _ => eO 0 []) v202 61 (by omega) (by omega)) (va_cwS 2 hts gL_act_L_below rfl rfl rfl (by decide +kernel) ⟨Nat.le_of_ble_eq_true rfl, Nat.le_of_ble_eq_true rfl⟩) hK (PP.of (fun b hb => absurd hb List.not_mem_nil)) rfl hl.1 rfl (Nat.le_of_ble_eq_true rfl) dL_act_215 ⟨Nat.le_of_ble_eq_true rfl, Nat.le_of_ble_eq_true rfl⟩ (fun r215 hr215 => ?_)
        obtain ⟨k215, hk215, rfl⟩ := hr215
        refine lv_istore (lv' := [(7, .int (nI k215)), (6, .int (nI k194)), (5, .int (nI o.nv)), (4, .int (nI o.n)), (3, .int (nI k5)), (0, .ref lo), (1, .ref b.sm), (2, .int x)]) hx hb dL_act_218 hl (by decide) rfl (fun ls hl => ?_)
        refine lv_aload_n hx hb dL_act_220 rfl (lv_at hl 6 rfl) ?_
        refine lv_aload_n hx hb dL_act_221 rfl (lv_at hl 6 rfl) ?_
        obtain ⟨Ls9, fs9, hM9, hPs9⟩ := hW.sim
        refine pg_get (C := RX5) (T := TX5) (N := 6) hx hb hts hi_X5 hown hK hPs9 hM9.1 hM9.2.1 rfl 3 (by decide) (hts (.fieldLink RL 24 "BarometerLeagueLaw$Sim" "signs" "[[I") (by decide +kernel)) (fun _ h9 => h9) rfl dL_act_222 ?_
        refine lv_iconst (v := 2) hx hb dL_act_225 (by decide) ?_
        refine w_newI hx hb (hts (.arrayClass .int) (by decide +kernel)) hK (fun _ h => Or.inr h) hW.G (k := 2) rfl (by omega) (Nat.le_of_ble_eq_true rfl) (Nat.le_of_ble_eq_true rfl) dL_act_226 (fun q226 H hq226 hW => ?_)
        obtain ⟨fwq226, efwq226⟩ : ∃ z, z = va_up (fun _ => eO 0 []) q226 (eI g 2 (fun _ => 0)) := ⟨_, rfl⟩
        rw [← efwq226] at hW
        have hf_q226 : fwq226 q226 = eI g 2 (fun _ => 0) := by rw [efwq226]; exact va_up_self _ _ _
        have hL_q226 : q226 ∈ (q226 :: []) := List.mem_cons_self
        refine lv_dup hx hb dL_act_228 rfl ?_
        refine lv_iconst (v := 0) hx hb dL_act_229 (by decide) ?_
        refine lv_iload hx hb dL_act_230 (lv_at hl 1 rfl) ?_
        refine w_iast hx hb hK hW hL_q226 hf_q226 (j := 0) rfl (by omega) (by omega) dL_act_232 (fun H locs hW => ?_)
        obtain ⟨fw232, efw232⟩ : ∃ z, z = va_up fwq226 q226 (eI g 2 (upd (fun _ => 0) 0 (nI k194))) := ⟨_, rfl⟩
        rw [← efw232] at hW
        have hf_q226 : fw232 q226 = eI g 2 (upd (fun _ => 0) 0 (nI k194)) := by rw [efw232]; exact va_up_self _ _ _
        refine lv_dup hx hb dL_act_233 rfl ?_
        refine lv_iconst (v := 1) hx hb dL_act_234 (by decide) ?_
        refine lv_iload hx hb dL_act_235 (lv_at hl 0 rfl) ?_
        refine w_iast hx hb hK hW hL_q226 hf_q226 (j := 1) rfl (by omega) (by omega) dL_act_237 (fun H locs hW => ?_)
        obtain ⟨fw237, efw237⟩ : ∃ z, z = va_up fw232 q226 (eI g 2 (upd (upd (fun _ => 0) 0 (nI k194)) 1 (nI k215))) := ⟨_, rfl⟩
        rw [← efw237] at hW
        have hf_q226 : fw237 q226 = eI g 2 (upd (upd (fun _ => 0) 0 (nI k194)) 1 (nI k215)) := by rw [efw237]; exact va_up_self _ _ _
        refine u_more_signs ⟨hx, hb, hml, hown, hts⟩ hx hb hts hi_X5 hown hK hDS (k := 0) hW hf_q226 (by omega)  (va_cwS 2 hts gL_act_X5_more rfl rfl rfl (by decide +kernel) ⟨Nat.le_of_ble_eq_true rfl, Nat.le_of_ble_eq_true rfl⟩) (hts (.fieldLink RL 24 "BarometerLeagueLaw$Sim" "signs" "[[I") (by decide +kernel)) hl.1 (Nat.le_of_ble_eq_true rfl) dL_act_238 dL_act_241 ⟨Nat.le_of_ble_eq_true rfl, Nat.le_of_ble_eq_true rfl⟩ (fun b2 H locs hb2 hW => ?_)
        rw [← hb2] at hl
        have hW : WD g t lo b2 o ((o.d, o.n + 1, o.nv, o.gl, o.rn, upd o.kd o.n (nI k194), upd o.nu o.n (nI k215), o.vs) : OB) [] _ _ _ H locs := hW
        refine lv_aload_n hx hb dL_act_244 rfl (lv_at hl 5 rfl) ?_
        refine lv_iload hx hb dL_act_245 (lv_at hl 1 rfl) ?_
        refine lv_iload hx hb dL_act_247 (lv_at hl 0 rfl) ?_
        refine u_sign ⟨hx, hb, hml, hown, hts⟩ hst hK hZ hDS hW hok (by omega) (k := k194) (j := k215) (by omega) (by omega) (by omega) (cwV 2 hts gL_act_X4_sign rfl rfl rfl (by decide +kernel) ⟨Nat.le_of_ble_eq_true rfl, Nat.le_of_ble_eq_true rfl⟩) hl.1 (Nat.le_of_ble_eq_true rfl) dL_act_249 ⟨Nat.le_of_ble_eq_true rfl, Nat.le_of_ble_eq_true rfl⟩ (fun H locs hW => ?_)
        refine lv_iload hx hb dL_act_252 (lv_at hl 3 rfl) ?_
        refine lv_icmp_ne (tgt := 261) hx hb dL_act_254 (by decide) (fun h => absurd rfl h) (fun _ => ?_)
        refine lv_iconst (v := 1) hx hb dL_act_257 (by decide) ?_
        refine lv_goto (tgt := 262) hx hb dL_act_258 (by decide) ?_
        exact hend 1 ((o.d, o.n + 1, o.nv, o.gl, o.rn, upd o.kd o.n (nI k194), upd o.nu o.n (nI k215), o.vs) : OB) b2 _ _ H locs _ _ _ _ hb2 ⟨rfl, (ok_sign hok (by omega) (by omega)).mono (by omega)⟩ hW rfl (Nat.le_of_ble_eq_true rfl) (Nat.le_of_ble_eq_true rfl) dL_act_262
      · skip
        have c205 : k194 = 0 := (nI_eq (a := k194) (b := 0) (by omega) (by omega)).mp (show nI k194 = nI 0 from c205)
        refine lv_bipush (v := 20) hx hb dL_act_208 (by decide) ?_
        refine lv_goto (tgt := 215) hx hb dL_act_210 (by decide) ?_
        refine ro_S (As := [.int v202, .int (nI 20)]) (rest := []) ⟨hx, hb, hml, hown, hts⟩ (m_L_below l g (fun _ => eO 0 []) v202 20 (by omega) (by omega)) (va_cwS 2 hts gL_act_L_below rfl rfl rfl (by decide +kernel) ⟨Nat.le_of_ble_eq_true rfl, Nat.le_of_ble_eq_true rfl⟩) hK (PP.of (fun b hb => absurd hb List.not_mem_nil)) rfl hl.1 rfl (Nat.le_of_ble_eq_true rfl) dL_act_215 ⟨Nat.le_of_ble_eq_true rfl, Nat.le_of_ble_eq_true rfl⟩ (fun r215 hr215 => ?_)
        obtain ⟨k215, hk215, rfl⟩ := hr215
        refine lv_istore (lv' := [(7, .int (nI k215)), (6, .int (nI k194)), (5, .int (nI o.nv)), (4, .int (nI o.n)), (3, .int (nI k5)), (0, .ref lo), (1, .ref b.sm), (2, .int x)]) hx hb dL_act_218 hl (by decide) rfl (fun ls hl => ?_)
        refine lv_aload_n hx hb dL_act_220 rfl (lv_at hl 6 rfl) ?_
        refine lv_aload_n hx hb dL_act_221 rfl (lv_at hl 6 rfl) ?_
        obtain ⟨Ls9, fs9, hM9, hPs9⟩ := hW.sim
        refine pg_get (C := RX5) (T := TX5) (N := 6) hx hb hts hi_X5 hown hK hPs9 hM9.1 hM9.2.1 rfl 3 (by decide) (hts (.fieldLink RL 24 "BarometerLeagueLaw$Sim" "signs" "[[I") (by decide +kernel)) (fun _ h9 => h9) rfl dL_act_222 ?_
        refine lv_iconst (v := 2) hx hb dL_act_225 (by decide) ?_
        refine w_newI hx hb (hts (.arrayClass .int) (by decide +kernel)) hK (fun _ h => Or.inr h) hW.G (k := 2) rfl (by omega) (Nat.le_of_ble_eq_true rfl) (Nat.le_of_ble_eq_true rfl) dL_act_226 (fun q226 H hq226 hW => ?_)
        obtain ⟨fwq226, efwq226⟩ : ∃ z, z = va_up (fun _ => eO 0 []) q226 (eI g 2 (fun _ => 0)) := ⟨_, rfl⟩
        rw [← efwq226] at hW
        have hf_q226 : fwq226 q226 = eI g 2 (fun _ => 0) := by rw [efwq226]; exact va_up_self _ _ _
        have hL_q226 : q226 ∈ (q226 :: []) := List.mem_cons_self
        refine lv_dup hx hb dL_act_228 rfl ?_
        refine lv_iconst (v := 0) hx hb dL_act_229 (by decide) ?_
        refine lv_iload hx hb dL_act_230 (lv_at hl 1 rfl) ?_
        refine w_iast hx hb hK hW hL_q226 hf_q226 (j := 0) rfl (by omega) (by omega) dL_act_232 (fun H locs hW => ?_)
        obtain ⟨fw232, efw232⟩ : ∃ z, z = va_up fwq226 q226 (eI g 2 (upd (fun _ => 0) 0 (nI k194))) := ⟨_, rfl⟩
        rw [← efw232] at hW
        have hf_q226 : fw232 q226 = eI g 2 (upd (fun _ => 0) 0 (nI k194)) := by rw [efw232]; exact va_up_self _ _ _
        refine lv_dup hx hb dL_act_233 rfl ?_
        refine lv_iconst (v := 1) hx hb dL_act_234 (by decide) ?_
        refine lv_iload hx hb dL_act_235 (lv_at hl 0 rfl) ?_
        refine w_iast hx hb hK hW hL_q226 hf_q226 (j := 1) rfl (by omega) (by omega) dL_act_237 (fun H locs hW => ?_)
        obtain ⟨fw237, efw237⟩ : ∃ z, z = va_up fw232 q226 (eI g 2 (upd (upd (fun _ => 0) 0 (nI k194)) 1 (nI k215))) := ⟨_, rfl⟩
        rw [← efw237] at hW
        have hf_q226 : fw237 q226 = eI g 2 (upd (upd (fun _ => 0) 0 (nI k194)) 1 (nI k215)) := by rw [efw237]; exact va_up_self _ _ _
        refine u_more_signs ⟨hx, hb, hml, hown, hts⟩ hx hb hts hi_X5 hown hK hDS (k := 0) hW hf_q226 (by omega)  (va_cwS 2 hts gL_act_X5_more rfl rfl rfl (by decide +kernel) ⟨Nat.le_of_ble_eq_true rfl, Nat.le_of_ble_eq_true rfl⟩) (hts (.fieldLink RL 24 "BarometerLeagueLaw$Sim" "signs" "[[I") (by decide +kernel)) hl.1 (Nat.le_of_ble_eq_true rfl) dL_act_238 dL_act_241 ⟨Nat.le_of_ble_eq_true rfl, Nat.le_of_ble_eq_true rfl⟩ (fun b2 H locs hb2 hW => ?_)
        rw [← hb2] at hl
        have hW : WD g t lo b2 o ((o.d, o.n + 1, o.nv, o.gl, o.rn, upd o.kd o.n (nI k194), upd o.nu o.n (nI k215), o.vs) : OB) [] _ _ _ H locs := hW
        refine lv_aload_n hx hb dL_act_244 rfl (lv_at hl 5 rfl) ?_
        refine lv_iload hx hb dL_act_245 (lv_at hl 1 rfl) ?_
        refine lv_iload hx hb dL_act_247 (lv_at hl 0 rfl) ?_
        refine u_sign ⟨hx, hb, hml, hown, hts⟩ hst hK hZ hDS hW hok (by omega) (k := k194) (j := k215) (by omega) (by omega) (by omega) (cwV 2 hts gL_act_X4_sign rfl rfl rfl (by decide +kernel) ⟨Nat.le_of_ble_eq_true rfl, Nat.le_of_ble_eq_true rfl⟩) hl.1 (Nat.le_of_ble_eq_true rfl) dL_act_249 ⟨Nat.le_of_ble_eq_true rfl, Nat.le_of_ble_eq_true rfl⟩ (fun H locs hW => ?_)
        refine lv_iload hx hb dL_act_252 (lv_at hl 3 rfl) ?_
        refine lv_icmp_ne (tgt := 261) hx hb dL_act_254 (by decide) (fun h => absurd rfl h) (fun _ => ?_)
        refine lv_iconst (v := 1) hx hb dL_act_257 (by decide) ?_
        refine lv_goto (tgt := 262) hx hb dL_act_258 (by decide) ?_
        exact hend 1 ((o.d, o.n + 1, o.nv, o.gl, o.rn, upd o.kd o.n (nI k194), upd o.nu o.n (nI k215), o.vs) : OB) b2 _ _ H locs _ _ _ _ hb2 ⟨rfl, (ok_sign hok (by omega) (by omega)).mono (by omega)⟩ hW rfl (Nat.le_of_ble_eq_true rfl) (Nat.le_of_ble_eq_true rfl) dL_act_262
    · skip
      have c184 : o.n = 8 := (nI_eq (a := o.n) (b := 8) (by omega) (by omega)).mp (show nI o.n = nI 8 from c184)
      refine lv_iconst (v := 1) hx hb dL_act_187 (by decide) ?_
      exact hend 1 o b _ _ H locs _ _ _ _ rfl ⟨rfl, hok.mono (by omega)⟩ hW rfl (Nat.le_of_ble_eq_true rfl) (Nat.le_of_ble_eq_true rfl) dL_act_188
  have q29_4 : (nI k26).toInt ≠ 4 := by rw [nI_toInt (by omega)]; omega
  by_cases k29_5 : k26 = 5
  · have q : (nI k26).toInt = 5 := by rw [k29_5]; rfl
    refine lv_tableIn (off := 151) (tgt := 180) hx hb dL_act_29 (by rw [q]; decide) (by rw [q]; decide) (by rw [q]; rfl) (by decide) ?_
    refine lv_iload hx hb dL_act_180 (lv_at hl 1 rfl) ?_
    refine lv_bipush (v := 8) hx hb dL_act_182 (by decide) ?_
    refine lv_icmp_ne (tgt := 189) hx hb dL_act_184 (by decide) (fun c184 => ?_) (fun c184 => ?_)
    · skip
      have c184 : ¬ o.n = 8 := fun h => c184 ((nI_eq (a := o.n) (b := 8) (by omega) (by omega)).mpr h)
      refine lv_iload_n hx hb dL_act_189 rfl (lv_at hl 5 rfl) ?_
      refine lv_iconst (v := 4) hx hb dL_act_190 (by decide) ?_
      refine lv_ishr hx hb dL_act_191 ?_
      refine lv_topi (fun v191 ev191 => ?_)
      refine lv_bipush (v := 6) hx hb dL_act_192 (by decide) ?_
      refine ro_S (As := [.int v191, .int (nI 6)]) (rest := []) ⟨hx, hb, hml, hown, hts⟩ (m_L_below l g (fun _ => eO 0 []) v191 6 (by omega) (by omega)) (va_cwS 2 hts gL_act_L_below rfl rfl rfl (by decide +kernel) ⟨Nat.le_of_ble_eq_true rfl, Nat.le_of_ble_eq_true rfl⟩) hK (PP.of (fun b hb => absurd hb List.not_mem_nil)) rfl hl.1 rfl (Nat.le_of_ble_eq_true rfl) dL_act_194 ⟨Nat.le_of_ble_eq_true rfl, Nat.le_of_ble_eq_true rfl⟩ (fun r194 hr194 => ?_)
      obtain ⟨k194, hk194, rfl⟩ := hr194
      refine lv_istore (lv' := [(6, .int (nI k194)), (5, .int (nI o.nv)), (4, .int (nI o.n)), (3, .int (nI k5)), (0, .ref lo), (1, .ref b.sm), (2, .int x)]) hx hb dL_act_197 hl (by decide) rfl (fun ls hl => ?_)
      refine lv_iload_n hx hb dL_act_199 rfl (lv_at hl 6 rfl) ?_
      refine lv_bipush (v := 6) hx hb dL_act_200 (by decide) ?_
      refine lv_ishr hx hb dL_act_202 ?_
      refine lv_topi (fun v202 ev202 => ?_)
      refine lv_iload hx hb dL_act_203 (lv_at hl 0 rfl) ?_
      refine lv_if_ne (tgt := 213) hx hb dL_act_205 (by decide) (fun c205 => ?_) (fun c205 => ?_)
      · skip
        have c205 : ¬ k194 = 0 := fun h => c205 ((nI_eq (a := k194) (b := 0) (by omega) (by omega)).mpr h)
        refine lv_bipush (v := 61) hx hb dL_act_213 (by decide) ?_
        refine ro_S (As := [.int v202, .int (nI 61)]) (rest := []) ⟨hx, hb, hml, hown, hts⟩ (m_L_below l g (fun _ => eO 0 []) v202 61 (by omega) (by omega)) (va_cwS 2 hts gL_act_L_below rfl rfl rfl (by decide +kernel) ⟨Nat.le_of_ble_eq_true rfl, Nat.le_of_ble_eq_true rfl⟩) hK (PP.of (fun b hb => absurd hb List.not_mem_nil)) rfl hl.1 rfl (Nat.le_of_ble_eq_true rfl) dL_act_215 ⟨Nat.le_of_ble_eq_true rfl, Nat.le_of_ble_eq_true rfl⟩ (fun r215 hr215 => ?_)
        obtain ⟨k215, hk215, rfl⟩ := hr215
        refine lv_istore (lv' := [(7, .int (nI k215)), (6, .int (nI k194)), (5, .int (nI o.nv)), (4, .int (nI o.n)), (3, .int (nI k5)), (0, .ref lo), (1, .ref b.sm), (2, .int x)]) hx hb dL_act_218 hl (by decide) rfl (fun ls hl => ?_)
        refine lv_aload_n hx hb dL_act_220 rfl (lv_at hl 6 rfl) ?_
        refine lv_aload_n hx hb dL_act_221 rfl (lv_at hl 6 rfl) ?_
        obtain ⟨Ls9, fs9, hM9, hPs9⟩ := hW.sim
        refine pg_get (C := RX5) (T := TX5) (N := 6) hx hb hts hi_X5 hown hK hPs9 hM9.1 hM9.2.1 rfl 3 (by decide) (hts (.fieldLink RL 24 "BarometerLeagueLaw$Sim" "signs" "[[I") (by decide +kernel)) (fun _ h9 => h9) rfl dL_act_222 ?_
        refine lv_iconst (v := 2) hx hb dL_act_225 (by decide) ?_
        refine w_newI hx hb (hts (.arrayClass .int) (by decide +kernel)) hK (fun _ h => Or.inr h) hW.G (k := 2) rfl (by omega) (Nat.le_of_ble_eq_true rfl) (Nat.le_of_ble_eq_true rfl) dL_act_226 (fun q226 H hq226 hW => ?_)
        obtain ⟨fwq226, efwq226⟩ : ∃ z, z = va_up (fun _ => eO 0 []) q226 (eI g 2 (fun _ => 0)) := ⟨_, rfl⟩
        rw [← efwq226] at hW
        have hf_q226 : fwq226 q226 = eI g 2 (fun _ => 0) := by rw [efwq226]; exact va_up_self _ _ _
        have hL_q226 : q226 ∈ (q226 :: []) := List.mem_cons_self
        refine lv_dup hx hb dL_act_228 rfl ?_
        refine lv_iconst (v := 0) hx hb dL_act_229 (by decide) ?_
        refine lv_iload hx hb dL_act_230 (lv_at hl 1 rfl) ?_
        refine w_iast hx hb hK hW hL_q226 hf_q226 (j := 0) rfl (by omega) (by omega) dL_act_232 (fun H locs hW => ?_)
        obtain ⟨fw232, efw232⟩ : ∃ z, z = va_up fwq226 q226 (eI g 2 (upd (fun _ => 0) 0 (nI k194))) := ⟨_, rfl⟩
        rw [← efw232] at hW
        have hf_q226 : fw232 q226 = eI g 2 (upd (fun _ => 0) 0 (nI k194)) := by rw [efw232]; exact va_up_self _ _ _
        refine lv_dup hx hb dL_act_233 rfl ?_
        refine lv_iconst (v := 1) hx hb dL_act_234 (by decide) ?_
        refine lv_iload hx hb dL_act_235 (lv_at hl 0 rfl) ?_
        refine w_iast hx hb hK hW hL_q226 hf_q226 (j := 1) rfl (by omega) (by omega) dL_act_237 (fun H locs hW => ?_)
        obtain ⟨fw237, efw237⟩ : ∃ z, z = va_up fw232 q226 (eI g 2 (upd (upd (fun _ => 0) 0 (nI k194)) 1 (nI k215))) := ⟨_, rfl⟩
        rw [← efw237] at hW
        have hf_q226 : fw237 q226 = eI g 2 (upd (upd (fun _ => 0) 0 (nI k194)) 1 (nI k215)) := by rw [efw237]; exact va_up_self _ _ _
        refine u_more_signs ⟨hx, hb, hml, hown, hts⟩ hx hb hts hi_X5 hown hK hDS (k := 0) hW hf_q226 (by omega)  (va_cwS 2 hts gL_act_X5_more rfl rfl rfl (by decide +kernel) ⟨Nat.le_of_ble_eq_true rfl, Nat.le_of_ble_eq_true rfl⟩) (hts (.fieldLink RL 24 "BarometerLeagueLaw$Sim" "signs" "[[I") (by decide +kernel)) hl.1 (Nat.le_of_ble_eq_true rfl) dL_act_238 dL_act_241 ⟨Nat.le_of_ble_eq_true rfl, Nat.le_of_ble_eq_true rfl⟩ (fun b2 H locs hb2 hW => ?_)
        rw [← hb2] at hl
        have hW : WD g t lo b2 o ((o.d, o.n + 1, o.nv, o.gl, o.rn, upd o.kd o.n (nI k194), upd o.nu o.n (nI k215), o.vs) : OB) [] _ _ _ H locs := hW
        refine lv_aload_n hx hb dL_act_244 rfl (lv_at hl 5 rfl) ?_
        refine lv_iload hx hb dL_act_245 (lv_at hl 1 rfl) ?_
        refine lv_iload hx hb dL_act_247 (lv_at hl 0 rfl) ?_
        refine u_sign ⟨hx, hb, hml, hown, hts⟩ hst hK hZ hDS hW hok (by omega) (k := k194) (j := k215) (by omega) (by omega) (by omega) (cwV 2 hts gL_act_X4_sign rfl rfl rfl (by decide +kernel) ⟨Nat.le_of_ble_eq_true rfl, Nat.le_of_ble_eq_true rfl⟩) hl.1 (Nat.le_of_ble_eq_true rfl) dL_act_249 ⟨Nat.le_of_ble_eq_true rfl, Nat.le_of_ble_eq_true rfl⟩ (fun H locs hW => ?_)
        refine lv_iload hx hb dL_act_252 (lv_at hl 3 rfl) ?_
        refine lv_icmp_ne (tgt := 261) hx hb dL_act_254 (by decide) (fun h => absurd rfl h) (fun _ => ?_)
        refine lv_iconst (v := 1) hx hb dL_act_257 (by decide) ?_
        refine lv_goto (tgt := 262) hx hb dL_act_258 (by decide) ?_
        exact hend 1 ((o.d, o.n + 1, o.nv, o.gl, o.rn, upd o.kd o.n (nI k194), upd o.nu o.n (nI k215), o.vs) : OB) b2 _ _ H locs _ _ _ _ hb2 ⟨rfl, (ok_sign hok (by omega) (by omega)).mono (by omega)⟩ hW rfl (Nat.le_of_ble_eq_true rfl) (Nat.le_of_ble_eq_true rfl) dL_act_262
      · skip
        have c205 : k194 = 0 := (nI_eq (a := k194) (b := 0) (by omega) (by omega)).mp (show nI k194 = nI 0 from c205)
        refine lv_bipush (v := 20) hx hb dL_act_208 (by decide) ?_
        refine lv_goto (tgt := 215) hx hb dL_act_210 (by decide) ?_
        refine ro_S (As := [.int v202, .int (nI 20)]) (rest := []) ⟨hx, hb, hml, hown, hts⟩ (m_L_below l g (fun _ => eO 0 []) v202 20 (by omega) (by omega)) (va_cwS 2 hts gL_act_L_below rfl rfl rfl (by decide +kernel) ⟨Nat.le_of_ble_eq_true rfl, Nat.le_of_ble_eq_true rfl⟩) hK (PP.of (fun b hb => absurd hb List.not_mem_nil)) rfl hl.1 rfl (Nat.le_of_ble_eq_true rfl) dL_act_215 ⟨Nat.le_of_ble_eq_true rfl, Nat.le_of_ble_eq_true rfl⟩ (fun r215 hr215 => ?_)
        obtain ⟨k215, hk215, rfl⟩ := hr215
        refine lv_istore (lv' := [(7, .int (nI k215)), (6, .int (nI k194)), (5, .int (nI o.nv)), (4, .int (nI o.n)), (3, .int (nI k5)), (0, .ref lo), (1, .ref b.sm), (2, .int x)]) hx hb dL_act_218 hl (by decide) rfl (fun ls hl => ?_)
        refine lv_aload_n hx hb dL_act_220 rfl (lv_at hl 6 rfl) ?_
        refine lv_aload_n hx hb dL_act_221 rfl (lv_at hl 6 rfl) ?_
        obtain ⟨Ls9, fs9, hM9, hPs9⟩ := hW.sim
        refine pg_get (C := RX5) (T := TX5) (N := 6) hx hb hts hi_X5 hown hK hPs9 hM9.1 hM9.2.1 rfl 3 (by decide) (hts (.fieldLink RL 24 "BarometerLeagueLaw$Sim" "signs" "[[I") (by decide +kernel)) (fun _ h9 => h9) rfl dL_act_222 ?_
        refine lv_iconst (v := 2) hx hb dL_act_225 (by decide) ?_
        refine w_newI hx hb (hts (.arrayClass .int) (by decide +kernel)) hK (fun _ h => Or.inr h) hW.G (k := 2) rfl (by omega) (Nat.le_of_ble_eq_true rfl) (Nat.le_of_ble_eq_true rfl) dL_act_226 (fun q226 H hq226 hW => ?_)
        obtain ⟨fwq226, efwq226⟩ : ∃ z, z = va_up (fun _ => eO 0 []) q226 (eI g 2 (fun _ => 0)) := ⟨_, rfl⟩
        rw [← efwq226] at hW
        have hf_q226 : fwq226 q226 = eI g 2 (fun _ => 0) := by rw [efwq226]; exact va_up_self _ _ _
        have hL_q226 : q226 ∈ (q226 :: []) := List.mem_cons_self
        refine lv_dup hx hb dL_act_228 rfl ?_
        refine lv_iconst (v := 0) hx hb dL_act_229 (by decide) ?_
        refine lv_iload hx hb dL_act_230 (lv_at hl 1 rfl) ?_
        refine w_iast hx hb hK hW hL_q226 hf_q226 (j := 0) rfl (by omega) (by omega) dL_act_232 (fun H locs hW => ?_)
        obtain ⟨fw232, efw232⟩ : ∃ z, z = va_up fwq226 q226 (eI g 2 (upd (fun _ => 0) 0 (nI k194))) := ⟨_, rfl⟩
        rw [← efw232] at hW
        have hf_q226 : fw232 q226 = eI g 2 (upd (fun _ => 0) 0 (nI k194)) := by rw [efw232]; exact va_up_self _ _ _
        refine lv_dup hx hb dL_act_233 rfl ?_
        refine lv_iconst (v := 1) hx hb dL_act_234 (by decide) ?_
        refine lv_iload hx hb dL_act_235 (lv_at hl 0 rfl) ?_
        refine w_iast hx hb hK hW hL_q226 hf_q226 (j := 1) rfl (by omega) (by omega) dL_act_237 (fun H locs hW => ?_)
        obtain ⟨fw237, efw237⟩ : ∃ z, z = va_up fw232 q226 (eI g 2 (upd (upd (fun _ => 0) 0 (nI k194)) 1 (nI k215))) := ⟨_, rfl⟩
        rw [← efw237] at hW
        have hf_q226 : fw237 q226 = eI g 2 (upd (upd (fun _ => 0) 0 (nI k194)) 1 (nI k215)) := by rw [efw237]; exact va_up_self _ _ _
        refine u_more_signs ⟨hx, hb, hml, hown, hts⟩ hx hb hts hi_X5 hown hK hDS (k := 0) hW hf_q226 (by omega)  (va_cwS 2 hts gL_act_X5_more rfl rfl rfl (by decide +kernel) ⟨Nat.le_of_ble_eq_true rfl, Nat.le_of_ble_eq_true rfl⟩) (hts (.fieldLink RL 24 "BarometerLeagueLaw$Sim" "signs" "[[I") (by decide +kernel)) hl.1 (Nat.le_of_ble_eq_true rfl) dL_act_238 dL_act_241 ⟨Nat.le_of_ble_eq_true rfl, Nat.le_of_ble_eq_true rfl⟩ (fun b2 H locs hb2 hW => ?_)
        rw [← hb2] at hl
        have hW : WD g t lo b2 o ((o.d, o.n + 1, o.nv, o.gl, o.rn, upd o.kd o.n (nI k194), upd o.nu o.n (nI k215), o.vs) : OB) [] _ _ _ H locs := hW
        refine lv_aload_n hx hb dL_act_244 rfl (lv_at hl 5 rfl) ?_
        refine lv_iload hx hb dL_act_245 (lv_at hl 1 rfl) ?_
        refine lv_iload hx hb dL_act_247 (lv_at hl 0 rfl) ?_
        refine u_sign ⟨hx, hb, hml, hown, hts⟩ hst hK hZ hDS hW hok (by omega) (k := k194) (j := k215) (by omega) (by omega) (by omega) (cwV 2 hts gL_act_X4_sign rfl rfl rfl (by decide +kernel) ⟨Nat.le_of_ble_eq_true rfl, Nat.le_of_ble_eq_true rfl⟩) hl.1 (Nat.le_of_ble_eq_true rfl) dL_act_249 ⟨Nat.le_of_ble_eq_true rfl, Nat.le_of_ble_eq_true rfl⟩ (fun H locs hW => ?_)
        refine lv_iload hx hb dL_act_252 (lv_at hl 3 rfl) ?_
        refine lv_icmp_ne (tgt := 261) hx hb dL_act_254 (by decide) (fun h => absurd rfl h) (fun _ => ?_)
        refine lv_iconst (v := 1) hx hb dL_act_257 (by decide) ?_
        refine lv_goto (tgt := 262) hx hb dL_act_258 (by decide) ?_
        exact hend 1 ((o.d, o.n + 1, o.nv, o.gl, o.rn, upd o.kd o.n (nI k194), upd o.nu o.n (nI k215), o.vs) : OB) b2 _ _ H locs _ _ _ _ hb2 ⟨rfl, (ok_sign hok (by omega) (by omega)).mono (by omega)⟩ hW rfl (Nat.le_of_ble_eq_true rfl) (Nat.le_of_ble_eq_true rfl) dL_act_262
    · skip
      have c184 : o.n = 8 := (nI_eq (a := o.n) (b := 8) (by omega) (by omega)).mp (show nI o.n = nI 8 from c184)
      refine lv_iconst (v := 1) hx hb dL_act_187 (by decide) ?_
      exact hend 1 o b _ _ H locs _ _ _ _ rfl ⟨rfl, hok.mono (by omega)⟩ hW rfl (Nat.le_of_ble_eq_true rfl) (Nat.le_of_ble_eq_true rfl) dL_act_188
  have q29_5 : (nI k26).toInt ≠ 5 := by rw [nI_toInt (by omega)]; omega
  by_cases k29_6 : k26 = 6
  · have q : (nI k26).toInt = 6 := by rw [k29_6]; rfl
    refine lv_tableIn (off := 234) (tgt := 263) hx hb dL_act_29 (by rw [q]; decide) (by rw [q]; decide) (by rw [q]; rfl) (by decide) ?_
    refine lv_iload hx hb dL_act_263 (lv_at hl 0 rfl) ?_
    refine lv_bipush (v := 6) hx hb dL_act_265 (by decide) ?_
    refine lv_icmp_ne (tgt := 272) hx hb dL_act_267 (by decide) (fun c267 => ?_) (fun c267 => ?_)
    · skip
      have c267 : ¬ o.nv = 6 := fun h => c267 ((nI_eq (a := o.nv) (b := 6) (by omega) (by omega)).mpr h)
      refine lv_aload_n hx hb dL_act_272 rfl (lv_at hl 4 rfl) ?_
      refine lv_aload_n hx hb dL_act_273 rfl (lv_at hl 4 rfl) ?_
      obtain ⟨Ls9, fs9, hM9, hPs9⟩ := hW.sim
      refine pg_get (C := RX5) (T := TX5) (N := 6) hx hb hts hi_X5 hown hK hPs9 hM9.1 hM9.2.1 rfl 4 (by decide) (hts (.fieldLink RL 28 "BarometerLeagueLaw$Sim" "villages" "[[I") (by decide +kernel)) (fun _ h9 => h9) rfl dL_act_274 ?_
      refine lv_iconst (v := 3) hx hb dL_act_277 (by decide) ?_
      refine w_newI hx hb (hts (.arrayClass .int) (by decide +kernel)) hK (fun _ h => Or.inr h) hW.G (k := 3) rfl (by omega) (Nat.le_of_ble_eq_true rfl) (Nat.le_of_ble_eq_true rfl) dL_act_278 (fun q278 H hq278 hW => ?_)
      obtain ⟨fwq278, efwq278⟩ : ∃ z, z = va_up (fun _ => eO 0 []) q278 (eI g 3 (fun _ => 0)) := ⟨_, rfl⟩
      rw [← efwq278] at hW
      have hf_q278 : fwq278 q278 = eI g 3 (fun _ => 0) := by rw [efwq278]; exact va_up_self _ _ _
      have hL_q278 : q278 ∈ (q278 :: []) := List.mem_cons_self
      refine lv_dup hx hb dL_act_280 rfl ?_
      refine lv_iconst (v := 0) hx hb dL_act_281 (by decide) ?_
      refine lv_iconst (v := 0) hx hb dL_act_282 (by decide) ?_
      refine w_iast hx hb hK hW hL_q278 hf_q278 (j := 0) rfl (by omega) (by omega) dL_act_283 (fun H locs hW => ?_)
      obtain ⟨fw283, efw283⟩ : ∃ z, z = va_up fwq278 q278 (eI g 3 (upd (fun _ => 0) 0 0)) := ⟨_, rfl⟩
      rw [← efw283] at hW
      have hf_q278 : fw283 q278 = eI g 3 (upd (fun _ => 0) 0 0) := by rw [efw283]; exact va_up_self _ _ _
      refine lv_dup hx hb dL_act_284 rfl ?_
      refine lv_iconst (v := 1) hx hb dL_act_285 (by decide) ?_
      refine lv_bipush (v := 10) hx hb dL_act_286 (by decide) ?_
      refine w_iast hx hb hK hW hL_q278 hf_q278 (j := 1) rfl (by omega) (by omega) dL_act_288 (fun H locs hW => ?_)
      obtain ⟨fw288, efw288⟩ : ∃ z, z = va_up fw283 q278 (eI g 3 (upd (upd (fun _ => 0) 0 0) 1 10)) := ⟨_, rfl⟩
      rw [← efw288] at hW
      have hf_q278 : fw288 q278 = eI g 3 (upd (upd (fun _ => 0) 0 0) 1 10) := by rw [efw288]; exact va_up_self _ _ _
      refine lv_dup hx hb dL_act_289 rfl ?_
      refine lv_iconst (v := 2) hx hb dL_act_290 (by decide) ?_
      refine lv_iconst (v := 0) hx hb dL_act_291 (by decide) ?_
      refine w_iast hx hb hK hW hL_q278 hf_q278 (j := 2) rfl (by omega) (by omega) dL_act_292 (fun H locs hW => ?_)
      obtain ⟨fw292, efw292⟩ : ∃ z, z = va_up fw288 q278 (eI g 3 (upd (upd (upd (fun _ => 0) 0 0) 1 10) 2 0)) := ⟨_, rfl⟩
      rw [← efw292] at hW
      have hf_q278 : fw292 q278 = eI g 3 (upd (upd (upd (fun _ => 0) 0 0) 1 10) 2 0) := by rw [efw292]; exact va_up_self _ _ _
      have hw278 : ∀ h9 : NewV (o.vs o.nv), ∀ i, i < 3 → (upd (upd (upd (fun _ => 0) 0 0) 1 10) 2 0) i = vr3 (o.vs o.nv) i := fun h9 i hi => by rcases (show i = 0 ∨ i = 1 ∨ i = 2 by omega) with rfl | rfl | rfl; exact h9.1.symm; exact h9.2.1.symm; exact h9.2.2.1.symm
      refine u_more_villages ⟨hx, hb, hml, hown, hts⟩ hx hb hts hi_X5 hown hK hDS (k := 0) hW hf_q278 (by omega) (hw278 (hok.hW o.nv (by omega) (by omega))) (va_cwS 2 hts gL_act_X5_more rfl rfl rfl (by decide +kernel) ⟨Nat.le_of_ble_eq_true rfl, Nat.le_of_ble_eq_true rfl⟩) (hts (.fieldLink RL 28 "BarometerLeagueLaw$Sim" "villages" "[[I") (by decide +kernel)) hl.1 (Nat.le_of_ble_eq_true rfl) dL_act_293 dL_act_296 ⟨Nat.le_of_ble_eq_true rfl, Nat.le_of_ble_eq_true rfl⟩ (fun b2 H locs hb2 hW => ?_)
      rw [← hb2] at hl
      refine lv_aload_n hx hb dL_act_299 rfl (lv_at hl 4 rfl) ?_
      refine lv_aload_n hx hb dL_act_300 rfl (lv_at hl 4 rfl) ?_
      obtain ⟨Ls9, fs9, hM9, hPs9⟩ := hW.sim
      refine pg_get (C := RX5) (T := TX5) (N := 6) hx hb hts hi_X5 hown hK hPs9 hM9.1 hM9.2.1 rfl 5 (by decide) (hts (.fieldLink RL 53 "BarometerLeagueLaw$Sim" "weights" "[[I") (by decide +kernel)) (fun _ h9 => h9) rfl dL_act_301 ?_
      refine lv_bipush (v := 8) hx hb dL_act_304 (by decide) ?_
      refine w_newI hx hb (hts (.arrayClass .int) (by decide +kernel)) hK (fun _ h => Or.inr h) hW (k := 8) rfl (by omega) (Nat.le_of_ble_eq_true rfl) (Nat.le_of_ble_eq_true rfl) dL_act_306 (fun q306 H hq306 hW => ?_)
      obtain ⟨fwq306, efwq306⟩ : ∃ z, z = va_up (fun _ => eO 0 []) q306 (eI g 8 (fun _ => 0)) := ⟨_, rfl⟩
      rw [← efwq306] at hW
      have hf_q306 : fwq306 q306 = eI g 8 (fun _ => 0) := by rw [efwq306]; exact va_up_self _ _ _
      have hL_q306 : q306 ∈ (q306 :: []) := List.mem_cons_self
      refine lv_dup hx hb dL_act_308 rfl ?_
      refine lv_iconst (v := 0) hx hb dL_act_309 (by decide) ?_
      refine lv_bipush (v := 20) hx hb dL_act_310 (by decide) ?_
      refine w_iast hx hb hK hW hL_q306 hf_q306 (j := 0) rfl (by omega) (by omega) dL_act_312 (fun H locs hW => ?_)
      obtain ⟨fw312, efw312⟩ : ∃ z, z = va_up fwq306 q306 (eI g 8 (upd (fun _ => 0) 0 20)) := ⟨_, rfl⟩
      rw [← efw312] at hW
      have hf_q306 : fw312 q306 = eI g 8 (upd (fun _ => 0) 0 20) := by rw [efw312]; exact va_up_self _ _ _
      refine lv_dup hx hb dL_act_313 rfl ?_
      refine lv_iconst (v := 1) hx hb dL_act_314 (by decide) ?_
      refine lv_bipush (v := 20) hx hb dL_act_315 (by decide) ?_
      refine w_iast hx hb hK hW hL_q306 hf_q306 (j := 1) rfl (by omega) (by omega) dL_act_317 (fun H locs hW => ?_)
      obtain ⟨fw317, efw317⟩ : ∃ z, z = va_up fw312 q306 (eI g 8 (upd (upd (fun _ => 0) 0 20) 1 20)) := ⟨_, rfl⟩
      rw [← efw317] at hW
      have hf_q306 : fw317 q306 = eI g 8 (upd (upd (fun _ => 0) 0 20) 1 20) := by rw [efw317]; exact va_up_self _ _ _
      refine lv_dup hx hb dL_act_318 rfl ?_
      refine lv_iconst (v := 2) hx hb dL_act_319 (by decide) ?_
      refine lv_bipush (v := 20) hx hb dL_act_320 (by decide) ?_
      refine w_iast hx hb hK hW hL_q306 hf_q306 (j := 2) rfl (by omega) (by omega) dL_act_322 (fun H locs hW => ?_)
      obtain ⟨fw322, efw322⟩ : ∃ z, z = va_up fw317 q306 (eI g 8 (upd (upd (upd (fun _ => 0) 0 20) 1 20) 2 20)) := ⟨_, rfl⟩
      rw [← efw322] at hW
      have hf_q306 : fw322 q306 = eI g 8 (upd (upd (upd (fun _ => 0) 0 20) 1 20) 2 20) := by rw [efw322]; exact va_up_self _ _ _
      refine lv_dup hx hb dL_act_323 rfl ?_
      refine lv_iconst (v := 3) hx hb dL_act_324 (by decide) ?_
      refine lv_bipush (v := 20) hx hb dL_act_325 (by decide) ?_
      refine w_iast hx hb hK hW hL_q306 hf_q306 (j := 3) rfl (by omega) (by omega) dL_act_327 (fun H locs hW => ?_)
      obtain ⟨fw327, efw327⟩ : ∃ z, z = va_up fw322 q306 (eI g 8 (upd (upd (upd (upd (fun _ => 0) 0 20) 1 20) 2 20) 3 20)) := ⟨_, rfl⟩
      rw [← efw327] at hW
      have hf_q306 : fw327 q306 = eI g 8 (upd (upd (upd (upd (fun _ => 0) 0 20) 1 20) 2 20) 3 20) := by rw [efw327]; exact va_up_self _ _ _
      refine lv_dup hx hb dL_act_328 rfl ?_
      refine lv_iconst (v := 4) hx hb dL_act_329 (by decide) ?_
      refine lv_bipush (v := 20) hx hb dL_act_330 (by decide) ?_
      refine w_iast hx hb hK hW hL_q306 hf_q306 (j := 4) rfl (by omega) (by omega) dL_act_332 (fun H locs hW => ?_)
      obtain ⟨fw332, efw332⟩ : ∃ z, z = va_up fw327 q306 (eI g 8 (upd (upd (upd (upd (upd (fun _ => 0) 0 20) 1 20) 2 20) 3 20) 4 20)) := ⟨_, rfl⟩
      rw [← efw332] at hW
      have hf_q306 : fw332 q306 = eI g 8 (upd (upd (upd (upd (upd (fun _ => 0) 0 20) 1 20) 2 20) 3 20) 4 20) := by rw [efw332]; exact va_up_self _ _ _
      refine lv_dup hx hb dL_act_333 rfl ?_
      refine lv_iconst (v := 5) hx hb dL_act_334 (by decide) ?_
      refine lv_bipush (v := 20) hx hb dL_act_335 (by decide) ?_
      refine w_iast hx hb hK hW hL_q306 hf_q306 (j := 5) rfl (by omega) (by omega) dL_act_337 (fun H locs hW => ?_)
      obtain ⟨fw337, efw337⟩ : ∃ z, z = va_up fw332 q306 (eI g 8 (upd (upd (upd (upd (upd (upd (fun _ => 0) 0 20) 1 20) 2 20) 3 20) 4 20) 5 20)) := ⟨_, rfl⟩
      rw [← efw337] at hW
      have hf_q306 : fw337 q306 = eI g 8 (upd (upd (upd (upd (upd (upd (fun _ => 0) 0 20) 1 20) 2 20) 3 20) 4 20) 5 20) := by rw [efw337]; exact va_up_self _ _ _
      refine lv_dup hx hb dL_act_338 rfl ?_
      refine lv_bipush (v := 6) hx hb dL_act_339 (by decide) ?_
      refine lv_bipush (v := 20) hx hb dL_act_341 (by decide) ?_
      refine w_iast hx hb hK hW hL_q306 hf_q306 (j := 6) rfl (by omega) (by omega) dL_act_343 (fun H locs hW => ?_)
      obtain ⟨fw343, efw343⟩ : ∃ z, z = va_up fw337 q306 (eI g 8 (upd (upd (upd (upd (upd (upd (upd (fun _ => 0) 0 20) 1 20) 2 20) 3 20) 4 20) 5 20) 6 20)) := ⟨_, rfl⟩
      rw [← efw343] at hW
      have hf_q306 : fw343 q306 = eI g 8 (upd (upd (upd (upd (upd (upd (upd (fun _ => 0) 0 20) 1 20) 2 20) 3 20) 4 20) 5 20) 6 20) := by rw [efw343]; exact va_up_self _ _ _
      refine lv_dup hx hb dL_act_344 rfl ?_
      refine lv_bipush (v := 7) hx hb dL_act_345 (by decide) ?_
      refine lv_bipush (v := 20) hx hb dL_act_347 (by decide) ?_
      refine w_iast hx hb hK hW hL_q306 hf_q306 (j := 7) rfl (by omega) (by omega) dL_act_349 (fun H locs hW => ?_)
      obtain ⟨fw349, efw349⟩ : ∃ z, z = va_up fw343 q306 (eI g 8 (upd (upd (upd (upd (upd (upd (upd (upd (fun _ => 0) 0 20) 1 20) 2 20) 3 20) 4 20) 5 20) 6 20) 7 20)) := ⟨_, rfl⟩
      rw [← efw349] at hW
      have hf_q306 : fw349 q306 = eI g 8 (upd (upd (upd (upd (upd (upd (upd (upd (fun _ => 0) 0 20) 1 20) 2 20) 3 20) 4 20) 5 20) 6 20) 7 20) := by rw [efw349]; exact va_up_self _ _ _
      have hw306 : ∀ h9 : NewV (o.vs o.nv), ∀ i, i < 8 → (upd (upd (upd (upd (upd (upd (upd (upd (fun _ => 0) 0 20) 1 20) 2 20) 3 20) 4 20) 5 20) 6 20) 7 20) i = (o.vs o.nv).2.2.2.2 i := fun h9 i hi => (show (upd (upd (upd (upd (upd (upd (upd (upd (fun _ => 0) 0 20) 1 20) 2 20) 3 20) 4 20) 5 20) 6 20) 7 20) i = 20 by rcases (show i = 0 ∨ i = 1 ∨ i = 2 ∨ i = 3 ∨ i = 4 ∨ i = 5 ∨ i = 6 ∨ i = 7 by omega) with rfl | rfl | rfl | rfl | rfl | rfl | rfl | rfl <;> rfl).trans (h9.2.2.2 i hi).symm
      refine u_more_weights ⟨hx, hb, hml, hown, hts⟩ hx hb hts hi_X5 hown hK hDS (k := 0) hW hf_q306 (by omega) (hw306 (hok.hW o.nv (by omega) (by omega))) (va_cwS 2 hts gL_act_X5_more rfl rfl rfl (by decide +kernel) ⟨Nat.le_of_ble_eq_true rfl, Nat.le_of_ble_eq_true rfl⟩) (hts (.fieldLink RL 53 "BarometerLeagueLaw$Sim" "weights" "[[I") (by decide +kernel)) hl.1 (Nat.le_of_ble_eq_true rfl) dL_act_350 dL_act_353 ⟨Nat.le_of_ble_eq_true rfl, Nat.le_of_ble_eq_true rfl⟩ (fun b3 H locs hb3 hW => ?_)
      rw [← hb3] at hl
      have hW : WD g t lo b3 o ((o.d, o.n, o.nv + 1, o.gl, o.rn, o.kd, o.nu, o.vs) : OB) [] _ _ _ H locs := hW
      refine lv_aload_n hx hb dL_act_356 rfl (lv_at hl 3 rfl) ?_
      refine u_join ⟨hx, hb, hml, hown, hts⟩ hst hK hZ hW hok (by omega) (by omega) (cwV 0 hts gL_act_X4_join rfl rfl rfl (by decide +kernel) ⟨Nat.le_of_ble_eq_true rfl, Nat.le_of_ble_eq_true rfl⟩) hl.1 (Nat.le_of_ble_eq_true rfl) dL_act_357 ⟨Nat.le_of_ble_eq_true rfl, Nat.le_of_ble_eq_true rfl⟩ (fun H locs hW => ?_)
      refine lv_iload hx hb dL_act_360 (lv_at hl 0 rfl) ?_
      refine lv_icmp_ne (tgt := 369) hx hb dL_act_362 (by decide) (fun h => absurd rfl h) (fun _ => ?_)
      refine lv_iconst (v := 1) hx hb dL_act_365 (by decide) ?_
      refine lv_goto (tgt := 370) hx hb dL_act_366 (by decide) ?_
      exact hend 1 ((o.d, o.n, o.nv + 1, o.gl, o.rn, o.kd, o.nu, o.vs) : OB) b3 _ _ H locs _ _ _ _ (hb3.trans hb2) ⟨rfl, (ok_join hok (by omega)).mono (by omega)⟩ hW rfl (Nat.le_of_ble_eq_true rfl) (Nat.le_of_ble_eq_true rfl) dL_act_370
    · skip
      have c267 : o.nv = 6 := (nI_eq (a := o.nv) (b := 6) (by omega) (by omega)).mp (show nI o.nv = nI 6 from c267)
      refine lv_iconst (v := 1) hx hb dL_act_270 (by decide) ?_
      exact hend 1 o b _ _ H locs _ _ _ _ rfl ⟨rfl, hok.mono (by omega)⟩ hW rfl (Nat.le_of_ble_eq_true rfl) (Nat.le_of_ble_eq_true rfl) dL_act_271
  have q29_6 : (nI k26).toInt ≠ 6 := by rw [nI_toInt (by omega)]; omega
  by_cases k29_7 : k26 = 7
  · have q : (nI k26).toInt = 7 := by rw [k29_7]; rfl
    refine lv_tableIn (off := 342) (tgt := 371) hx hb dL_act_29 (by rw [q]; decide) (by rw [q]; decide) (by rw [q]; rfl) (by decide) ?_
    refine lv_iload hx hb dL_act_371 (lv_at hl 1 rfl) ?_
    refine lv_iload hx hb dL_act_373 (lv_at hl 0 rfl) ?_
    refine lv_imul hx hb dL_act_375 ?_
    refine lv_topi (fun v375 ev375 => ?_)
    refine lv_if_ne (tgt := 381) hx hb dL_act_376 (by decide) (fun c376 => ?_) (fun _ => ?_)
    · have c376a : o.n ≠ 0 := fun h => c376 (by rw [ev375, h]; exact mul_0l _)
      have c376b : o.nv ≠ 0 := fun h => c376 (by rw [ev375, h]; exact mul_0r _)
      refine lv_iload_n hx hb dL_act_381 rfl (lv_at hl 5 rfl) ?_
      refine lv_iconst (v := 4) hx hb dL_act_382 (by decide) ?_
      refine lv_ishr hx hb dL_act_383 ?_
      refine lv_topi (fun v383 ev383 => ?_)
      refine lv_iload hx hb dL_act_384 (lv_at hl 0 rfl) ?_
      refine ro_S (As := [.int v383, .int (nI o.nv)]) (rest := []) ⟨hx, hb, hml, hown, hts⟩ (m_L_below l g (fun _ => eO 0 []) v383 o.nv (by omega) (by omega)) (va_cwS 2 hts gL_act_L_below rfl rfl rfl (by decide +kernel) ⟨Nat.le_of_ble_eq_true rfl, Nat.le_of_ble_eq_true rfl⟩) hK (PP.of (fun b hb => absurd hb List.not_mem_nil)) rfl hl.1 rfl (Nat.le_of_ble_eq_true rfl) dL_act_386 ⟨Nat.le_of_ble_eq_true rfl, Nat.le_of_ble_eq_true rfl⟩ (fun r386 hr386 => ?_)
      obtain ⟨k386, hk386, rfl⟩ := hr386
      refine lv_istore (lv' := [(6, .int (nI k386)), (5, .int (nI o.nv)), (4, .int (nI o.n)), (3, .int (nI k5)), (0, .ref lo), (1, .ref b.sm), (2, .int x)]) hx hb dL_act_389 hl (by decide) rfl (fun ls hl => ?_)
      refine lv_iload_n hx hb dL_act_391 rfl (lv_at hl 6 rfl) ?_
      refine lv_bipush (v := 6) hx hb dL_act_392 (by decide) ?_
      refine lv_ishr hx hb dL_act_394 ?_
      refine lv_topi (fun v394 ev394 => ?_)
      refine lv_iload hx hb dL_act_395 (lv_at hl 2 rfl) ?_
      refine ro_S (As := [.int v394, .int (nI o.n)]) (rest := []) ⟨hx, hb, hml, hown, hts⟩ (m_L_below l g (fun _ => eO 0 []) v394 o.n (by omega) (by omega)) (va_cwS 2 hts gL_act_L_below rfl rfl rfl (by decide +kernel) ⟨Nat.le_of_ble_eq_true rfl, Nat.le_of_ble_eq_true rfl⟩) hK (PP.of (fun b hb => absurd hb List.not_mem_nil)) rfl hl.1 rfl (Nat.le_of_ble_eq_true rfl) dL_act_397 ⟨Nat.le_of_ble_eq_true rfl, Nat.le_of_ble_eq_true rfl⟩ (fun r397 hr397 => ?_)
      obtain ⟨k397, hk397, rfl⟩ := hr397
      refine lv_istore (lv' := [(7, .int (nI k397)), (6, .int (nI k386)), (5, .int (nI o.nv)), (4, .int (nI o.n)), (3, .int (nI k5)), (0, .ref lo), (1, .ref b.sm), (2, .int x)]) hx hb dL_act_400 hl (by decide) rfl (fun ls hl => ?_)
      refine lv_aload_n hx hb dL_act_402 rfl (lv_at hl 6 rfl) ?_
      obtain ⟨Ls9, fs9, hM9, hPs9⟩ := hW.sim
      refine pg_get (C := RX5) (T := TX5) (N := 6) hx hb hts hi_X5 hown hK hPs9 hM9.1 hM9.2.1 rfl 5 (by decide) (hts (.fieldLink RL 53 "BarometerLeagueLaw$Sim" "weights" "[[I") (by decide +kernel)) (fun _ h9 => h9) rfl dL_act_403 ?_
      refine lv_iload hx hb dL_act_406 (lv_at hl 1 rfl) ?_
      obtain ⟨Ls9, fs9, hM9, hPs9⟩ := hW.sim
      refine pn_rald (n := o.nv) (j := k386) hx hb hK hPs9 hM9.L_sw hM9.f_sw rfl (by omega) (by omega) (vilR_at (show k386 < o.nv by omega)) dL_act_408 ?_
      refine lv_iload hx hb dL_act_409 (lv_at hl 0 rfl) ?_
      obtain ⟨Ls9, fs9, hM9, hPs9⟩ := hW.sim
      obtain ⟨hLr9, z9, hfr9, hz9⟩ := hM9.hWR k386 (show k386 < o.nv by omega)
      refine pn_iald (j := k397) hx hb hK hPs9 hLr9 hfr9 rfl (by omega) (by omega) dL_act_411 ?_
      rw [show z9 k397 = (o.vs k386).2.2.2.2 k397 from hz9 k397 (by omega)]
      refine lv_istore (lv' := [(8, .int ((o.vs k386).2.2.2.2 k397)), (7, .int (nI k397)), (6, .int (nI k386)), (5, .int (nI o.nv)), (4, .int (nI o.n)), (3, .int (nI k5)), (0, .ref lo), (1, .ref b.sm), (2, .int x)]) hx hb dL_act_412 hl (by decide) rfl (fun ls hl => ?_)
      refine lv_aload_n hx hb dL_act_414 rfl (lv_at hl 7 rfl) ?_
      obtain ⟨Ls9, fs9, hM9, hPs9⟩ := hW.sim
      refine pg_get (C := RX5) (T := TX5) (N := 6) hx hb hts hi_X5 hown hK hPs9 hM9.1 hM9.2.1 rfl 5 (by decide) (hts (.fieldLink RL 53 "BarometerLeagueLaw$Sim" "weights" "[[I") (by decide +kernel)) (fun _ h9 => h9) rfl dL_act_415 ?_
      refine lv_iload hx hb dL_act_418 (lv_at hl 2 rfl) ?_
      obtain ⟨Ls9, fs9, hM9, hPs9⟩ := hW.sim
      refine pn_rald (n := o.nv) (j := k386) hx hb hK hPs9 hM9.L_sw hM9.f_sw rfl (by omega) (by omega) (vilR_at (show k386 < o.nv by omega)) dL_act_420 ?_
      refine lv_iload hx hb dL_act_421 (lv_at hl 1 rfl) ?_
      refine lv_iload_n hx hb dL_act_423 rfl (lv_at hl 8 rfl) ?_
      refine lv_iconst (v := 5) hx hb dL_act_424 (by decide) ?_
      refine lv_ishr hx hb dL_act_425 ?_
      refine lv_topi (fun v425 ev425 => ?_)
      refine lv_bipush (v := 101) hx hb dL_act_426 (by decide) ?_
      refine ro_S (As := [.int v425, .int (nI 101)]) (rest := [.int (nI k397), .ref (b.fw k386)]) ⟨hx, hb, hml, hown, hts⟩ (m_L_below l g (fun _ => eO 0 []) v425 101 (by omega) (by omega)) (va_cwS 2 hts gL_act_L_below rfl rfl rfl (by decide +kernel) ⟨Nat.le_of_ble_eq_true rfl, Nat.le_of_ble_eq_true rfl⟩) hK (PP.of (fun b hb => absurd hb List.not_mem_nil)) rfl hl.1 rfl (Nat.le_of_ble_eq_true rfl) dL_act_428 ⟨Nat.le_of_ble_eq_true rfl, Nat.le_of_ble_eq_true rfl⟩ (fun r428 hr428 => ?_)
      obtain ⟨k428, hk428, rfl⟩ := hr428
      refine w_sst (os2 := ((o.d, o.n, o.nv, o.gl, o.rn, o.kd, o.nu, fun z => if z = k386 then setW (o.vs k386) (upd (o.vs k386).2.2.2.2 k397 (nI k428)) else o.vs z) : OB)) hx hb hK hW (j := k397) rfl (sw_wt (by omega) (by omega)) dL_act_431 (fun H locs hW => ?_)
      refine lv_aload_n hx hb dL_act_432 rfl (lv_at hl 6 rfl) ?_
      refine lv_iload hx hb dL_act_433 (lv_at hl 2 rfl) ?_
      refine lv_iload hx hb dL_act_435 (lv_at hl 1 rfl) ?_
      refine lv_aload_n hx hb dL_act_437 rfl (lv_at hl 7 rfl) ?_
      obtain ⟨Ls9, fs9, hM9, hPs9⟩ := hW.sim
      refine pg_get (C := RX5) (T := TX5) (N := 6) hx hb hts hi_X5 hown hK hPs9 hM9.1 hM9.2.1 rfl 5 (by decide) (hts (.fieldLink RL 53 "BarometerLeagueLaw$Sim" "weights" "[[I") (by decide +kernel)) (fun _ h9 => h9) rfl dL_act_438 ?_
      refine lv_iload hx hb dL_act_441 (lv_at hl 2 rfl) ?_
      obtain ⟨Ls9, fs9, hM9, hPs9⟩ := hW.sim
      refine pn_rald (n := o.nv) (j := k386) hx hb hK hPs9 hM9.L_sw hM9.f_sw rfl (by omega) (by omega) (vilR_at (show k386 < o.nv by omega)) dL_act_443 ?_
      refine lv_iload hx hb dL_act_444 (lv_at hl 1 rfl) ?_
      obtain ⟨Ls9, fs9, hM9, hPs9⟩ := hW.sim
      obtain ⟨hLr9, z9, hfr9, hz9⟩ := hM9.hWR k386 (show k386 < o.nv by omega)
      refine pn_iald (j := k397) hx hb hK hPs9 hLr9 hfr9 rfl (by omega) (by omega) dL_act_446 ?_
      rw [show z9 k397 = nI k428 from (hz9 k397 (by omega)).trans wt_self]
      refine u_weigh ⟨hx, hb, hml, hown, hts⟩ hst hK hZ hW hok (by omega) (u := k386) (j := k397) (k := k428) (by omega) (by omega) (by omega) (cwV 3 hts gL_act_X4_weigh rfl rfl rfl (by decide +kernel) ⟨Nat.le_of_ble_eq_true rfl, Nat.le_of_ble_eq_true rfl⟩) hl.1 (Nat.le_of_ble_eq_true rfl) dL_act_447 ⟨Nat.le_of_ble_eq_true rfl, Nat.le_of_ble_eq_true rfl⟩ (fun H locs hW => ?_)
      refine lv_iload hx hb dL_act_450 (lv_at hl 0 rfl) ?_
      refine lv_icmp_ne (tgt := 459) hx hb dL_act_452 (by decide) (fun h => absurd rfl h) (fun _ => ?_)
      refine lv_iconst (v := 1) hx hb dL_act_455 (by decide) ?_
      refine lv_goto (tgt := 460) hx hb dL_act_456 (by decide) ?_
      exact hend 1 ((o.d, o.n, o.nv, o.gl, o.rn, o.kd, o.nu, fun z => if z = k386 then setW (o.vs k386) (upd (o.vs k386).2.2.2.2 k397 (nI k428)) else o.vs z) : OB) b _ _ H locs _ _ _ _ rfl ⟨rfl, (ok_weigh hok (by omega) (by omega)).mono (by omega)⟩ hW rfl (Nat.le_of_ble_eq_true rfl) (Nat.le_of_ble_eq_true rfl) dL_act_460
    · skip
      refine lv_iconst (v := 1) hx hb dL_act_379 (by decide) ?_
      exact hend 1 o b _ _ H locs _ _ _ _ rfl ⟨rfl, hok.mono (by omega)⟩ hW rfl (Nat.le_of_ble_eq_true rfl) (Nat.le_of_ble_eq_true rfl) dL_act_380
  have q29_7 : (nI k26).toInt ≠ 7 := by rw [nI_toInt (by omega)]; omega
  by_cases k29_8 : k26 = 8
  · have q : (nI k26).toInt = 8 := by rw [k29_8]; rfl
    refine lv_tableIn (off := 342) (tgt := 371) hx hb dL_act_29 (by rw [q]; decide) (by rw [q]; decide) (by rw [q]; rfl) (by decide) ?_
    refine lv_iload hx hb dL_act_371 (lv_at hl 1 rfl) ?_
    refine lv_iload hx hb dL_act_373 (lv_at hl 0 rfl) ?_
    refine lv_imul hx hb dL_act_375 ?_
    refine lv_topi (fun v375 ev375 => ?_)
    refine lv_if_ne (tgt := 381) hx hb dL_act_376 (by decide) (fun c376 => ?_) (fun _ => ?_)
    · have c376a : o.n ≠ 0 := fun h => c376 (by rw [ev375, h]; exact mul_0l _)
      have c376b : o.nv ≠ 0 := fun h => c376 (by rw [ev375, h]; exact mul_0r _)
      refine lv_iload_n hx hb dL_act_381 rfl (lv_at hl 5 rfl) ?_
      refine lv_iconst (v := 4) hx hb dL_act_382 (by decide) ?_
      refine lv_ishr hx hb dL_act_383 ?_
      refine lv_topi (fun v383 ev383 => ?_)
      refine lv_iload hx hb dL_act_384 (lv_at hl 0 rfl) ?_
      refine ro_S (As := [.int v383, .int (nI o.nv)]) (rest := []) ⟨hx, hb, hml, hown, hts⟩ (m_L_below l g (fun _ => eO 0 []) v383 o.nv (by omega) (by omega)) (va_cwS 2 hts gL_act_L_below rfl rfl rfl (by decide +kernel) ⟨Nat.le_of_ble_eq_true rfl, Nat.le_of_ble_eq_true rfl⟩) hK (PP.of (fun b hb => absurd hb List.not_mem_nil)) rfl hl.1 rfl (Nat.le_of_ble_eq_true rfl) dL_act_386 ⟨Nat.le_of_ble_eq_true rfl, Nat.le_of_ble_eq_true rfl⟩ (fun r386 hr386 => ?_)
      obtain ⟨k386, hk386, rfl⟩ := hr386
      refine lv_istore (lv' := [(6, .int (nI k386)), (5, .int (nI o.nv)), (4, .int (nI o.n)), (3, .int (nI k5)), (0, .ref lo), (1, .ref b.sm), (2, .int x)]) hx hb dL_act_389 hl (by decide) rfl (fun ls hl => ?_)
      refine lv_iload_n hx hb dL_act_391 rfl (lv_at hl 6 rfl) ?_
      refine lv_bipush (v := 6) hx hb dL_act_392 (by decide) ?_
      refine lv_ishr hx hb dL_act_394 ?_
      refine lv_topi (fun v394 ev394 => ?_)
      refine lv_iload hx hb dL_act_395 (lv_at hl 2 rfl) ?_
      refine ro_S (As := [.int v394, .int (nI o.n)]) (rest := []) ⟨hx, hb, hml, hown, hts⟩ (m_L_below l g (fun _ => eO 0 []) v394 o.n (by omega) (by omega)) (va_cwS 2 hts gL_act_L_below rfl rfl rfl (by decide +kernel) ⟨Nat.le_of_ble_eq_true rfl, Nat.le_of_ble_eq_true rfl⟩) hK (PP.of (fun b hb => absurd hb List.not_mem_nil)) rfl hl.1 rfl (Nat.le_of_ble_eq_true rfl) dL_act_397 ⟨Nat.le_of_ble_eq_true rfl, Nat.le_of_ble_eq_true rfl⟩ (fun r397 hr397 => ?_)
      obtain ⟨k397, hk397, rfl⟩ := hr397
      refine lv_istore (lv' := [(7, .int (nI k397)), (6, .int (nI k386)), (5, .int (nI o.nv)), (4, .int (nI o.n)), (3, .int (nI k5)), (0, .ref lo), (1, .ref b.sm), (2, .int x)]) hx hb dL_act_400 hl (by decide) rfl (fun ls hl => ?_)
      refine lv_aload_n hx hb dL_act_402 rfl (lv_at hl 6 rfl) ?_
      obtain ⟨Ls9, fs9, hM9, hPs9⟩ := hW.sim
      refine pg_get (C := RX5) (T := TX5) (N := 6) hx hb hts hi_X5 hown hK hPs9 hM9.1 hM9.2.1 rfl 5 (by decide) (hts (.fieldLink RL 53 "BarometerLeagueLaw$Sim" "weights" "[[I") (by decide +kernel)) (fun _ h9 => h9) rfl dL_act_403 ?_
      refine lv_iload hx hb dL_act_406 (lv_at hl 1 rfl) ?_
      obtain ⟨Ls9, fs9, hM9, hPs9⟩ := hW.sim
      refine pn_rald (n := o.nv) (j := k386) hx hb hK hPs9 hM9.L_sw hM9.f_sw rfl (by omega) (by omega) (vilR_at (show k386 < o.nv by omega)) dL_act_408 ?_
      refine lv_iload hx hb dL_act_409 (lv_at hl 0 rfl) ?_
      obtain ⟨Ls9, fs9, hM9, hPs9⟩ := hW.sim
      obtain ⟨hLr9, z9, hfr9, hz9⟩ := hM9.hWR k386 (show k386 < o.nv by omega)
      refine pn_iald (j := k397) hx hb hK hPs9 hLr9 hfr9 rfl (by omega) (by omega) dL_act_411 ?_
      rw [show z9 k397 = (o.vs k386).2.2.2.2 k397 from hz9 k397 (by omega)]
      refine lv_istore (lv' := [(8, .int ((o.vs k386).2.2.2.2 k397)), (7, .int (nI k397)), (6, .int (nI k386)), (5, .int (nI o.nv)), (4, .int (nI o.n)), (3, .int (nI k5)), (0, .ref lo), (1, .ref b.sm), (2, .int x)]) hx hb dL_act_412 hl (by decide) rfl (fun ls hl => ?_)
      refine lv_aload_n hx hb dL_act_414 rfl (lv_at hl 7 rfl) ?_
      obtain ⟨Ls9, fs9, hM9, hPs9⟩ := hW.sim
      refine pg_get (C := RX5) (T := TX5) (N := 6) hx hb hts hi_X5 hown hK hPs9 hM9.1 hM9.2.1 rfl 5 (by decide) (hts (.fieldLink RL 53 "BarometerLeagueLaw$Sim" "weights" "[[I") (by decide +kernel)) (fun _ h9 => h9) rfl dL_act_415 ?_
      refine lv_iload hx hb dL_act_418 (lv_at hl 2 rfl) ?_
      obtain ⟨Ls9, fs9, hM9, hPs9⟩ := hW.sim
      refine pn_rald (n := o.nv) (j := k386) hx hb hK hPs9 hM9.L_sw hM9.f_sw rfl (by omega) (by omega) (vilR_at (show k386 < o.nv by omega)) dL_act_420 ?_
      refine lv_iload hx hb dL_act_421 (lv_at hl 1 rfl) ?_
      refine lv_iload_n hx hb dL_act_423 rfl (lv_at hl 8 rfl) ?_
      refine lv_iconst (v := 5) hx hb dL_act_424 (by decide) ?_
      refine lv_ishr hx hb dL_act_425 ?_
      refine lv_topi (fun v425 ev425 => ?_)
      refine lv_bipush (v := 101) hx hb dL_act_426 (by decide) ?_
      refine ro_S (As := [.int v425, .int (nI 101)]) (rest := [.int (nI k397), .ref (b.fw k386)]) ⟨hx, hb, hml, hown, hts⟩ (m_L_below l g (fun _ => eO 0 []) v425 101 (by omega) (by omega)) (va_cwS 2 hts gL_act_L_below rfl rfl rfl (by decide +kernel) ⟨Nat.le_of_ble_eq_true rfl, Nat.le_of_ble_eq_true rfl⟩) hK (PP.of (fun b hb => absurd hb List.not_mem_nil)) rfl hl.1 rfl (Nat.le_of_ble_eq_true rfl) dL_act_428 ⟨Nat.le_of_ble_eq_true rfl, Nat.le_of_ble_eq_true rfl⟩ (fun r428 hr428 => ?_)
      obtain ⟨k428, hk428, rfl⟩ := hr428
      refine w_sst (os2 := ((o.d, o.n, o.nv, o.gl, o.rn, o.kd, o.nu, fun z => if z = k386 then setW (o.vs k386) (upd (o.vs k386).2.2.2.2 k397 (nI k428)) else o.vs z) : OB)) hx hb hK hW (j := k397) rfl (sw_wt (by omega) (by omega)) dL_act_431 (fun H locs hW => ?_)
      refine lv_aload_n hx hb dL_act_432 rfl (lv_at hl 6 rfl) ?_
      refine lv_iload hx hb dL_act_433 (lv_at hl 2 rfl) ?_
      refine lv_iload hx hb dL_act_435 (lv_at hl 1 rfl) ?_
      refine lv_aload_n hx hb dL_act_437 rfl (lv_at hl 7 rfl) ?_
      obtain ⟨Ls9, fs9, hM9, hPs9⟩ := hW.sim
      refine pg_get (C := RX5) (T := TX5) (N := 6) hx hb hts hi_X5 hown hK hPs9 hM9.1 hM9.2.1 rfl 5 (by decide) (hts (.fieldLink RL 53 "BarometerLeagueLaw$Sim" "weights" "[[I") (by decide +kernel)) (fun _ h9 => h9) rfl dL_act_438 ?_
      refine lv_iload hx hb dL_act_441 (lv_at hl 2 rfl) ?_
      obtain ⟨Ls9, fs9, hM9, hPs9⟩ := hW.sim
      refine pn_rald (n := o.nv) (j := k386) hx hb hK hPs9 hM9.L_sw hM9.f_sw rfl (by omega) (by omega) (vilR_at (show k386 < o.nv by omega)) dL_act_443 ?_
      refine lv_iload hx hb dL_act_444 (lv_at hl 1 rfl) ?_
      obtain ⟨Ls9, fs9, hM9, hPs9⟩ := hW.sim
      obtain ⟨hLr9, z9, hfr9, hz9⟩ := hM9.hWR k386 (show k386 < o.nv by omega)
      refine pn_iald (j := k397) hx hb hK hPs9 hLr9 hfr9 rfl (by omega) (by omega) dL_act_446 ?_
      rw [show z9 k397 = nI k428 from (hz9 k397 (by omega)).trans wt_self]
      refine u_weigh ⟨hx, hb, hml, hown, hts⟩ hst hK hZ hW hok (by omega) (u := k386) (j := k397) (k := k428) (by omega) (by omega) (by omega) (cwV 3 hts gL_act_X4_weigh rfl rfl rfl (by decide +kernel) ⟨Nat.le_of_ble_eq_true rfl, Nat.le_of_ble_eq_true rfl⟩) hl.1 (Nat.le_of_ble_eq_true rfl) dL_act_447 ⟨Nat.le_of_ble_eq_true rfl, Nat.le_of_ble_eq_true rfl⟩ (fun H locs hW => ?_)
      refine lv_iload hx hb dL_act_450 (lv_at hl 0 rfl) ?_
      refine lv_icmp_ne (tgt := 459) hx hb dL_act_452 (by decide) (fun h => absurd rfl h) (fun _ => ?_)
      refine lv_iconst (v := 1) hx hb dL_act_455 (by decide) ?_
      refine lv_goto (tgt := 460) hx hb dL_act_456 (by decide) ?_
      exact hend 1 ((o.d, o.n, o.nv, o.gl, o.rn, o.kd, o.nu, fun z => if z = k386 then setW (o.vs k386) (upd (o.vs k386).2.2.2.2 k397 (nI k428)) else o.vs z) : OB) b _ _ H locs _ _ _ _ rfl ⟨rfl, (ok_weigh hok (by omega) (by omega)).mono (by omega)⟩ hW rfl (Nat.le_of_ble_eq_true rfl) (Nat.le_of_ble_eq_true rfl) dL_act_460
    · skip
      refine lv_iconst (v := 1) hx hb dL_act_379 (by decide) ?_
      exact hend 1 o b _ _ H locs _ _ _ _ rfl ⟨rfl, hok.mono (by omega)⟩ hW rfl (Nat.le_of_ble_eq_true rfl) (Nat.le_of_ble_eq_true rfl) dL_act_380
  have q29_8 : (nI k26).toInt ≠ 8 := by rw [nI_toInt (by omega)]; omega
  by_cases k29_9 : k26 = 9
  · have q : (nI k26).toInt = 9 := by rw [k29_9]; rfl
    refine lv_tableIn (off := 432) (tgt := 461) hx hb dL_act_29 (by rw [q]; decide) (by rw [q]; decide) (by rw [q]; rfl) (by decide) ?_
    refine lv_iload hx hb dL_act_461 (lv_at hl 0 rfl) ?_
    refine lv_iconst (v := 2) hx hb dL_act_463 (by decide) ?_
    refine lv_icmp_ge (tgt := 469) hx hb dL_act_464 (by decide) (fun c464 => ?_) (fun c464 => ?_)
    · skip
      have c464 : 2 ≤ o.nv := (nI_leI (a := 2) (b := o.nv) (by omega) (by omega)).mp (show nI 2 ≤ nI o.nv from c464)
      refine lv_iload_n hx hb dL_act_469 rfl (lv_at hl 5 rfl) ?_
      refine lv_iconst (v := 4) hx hb dL_act_470 (by decide) ?_
      refine lv_ishr hx hb dL_act_471 ?_
      refine lv_topi (fun v471 ev471 => ?_)
      refine lv_iload hx hb dL_act_472 (lv_at hl 0 rfl) ?_
      refine ro_S (As := [.int v471, .int (nI o.nv)]) (rest := []) ⟨hx, hb, hml, hown, hts⟩ (m_L_below l g (fun _ => eO 0 []) v471 o.nv (by omega) (by omega)) (va_cwS 2 hts gL_act_L_below rfl rfl rfl (by decide +kernel) ⟨Nat.le_of_ble_eq_true rfl, Nat.le_of_ble_eq_true rfl⟩) hK (PP.of (fun b hb => absurd hb List.not_mem_nil)) rfl hl.1 rfl (Nat.le_of_ble_eq_true rfl) dL_act_474 ⟨Nat.le_of_ble_eq_true rfl, Nat.le_of_ble_eq_true rfl⟩ (fun r474 hr474 => ?_)
      obtain ⟨k474, hk474, rfl⟩ := hr474
      refine lv_istore (lv' := [(6, .int (nI k474)), (5, .int (nI o.nv)), (4, .int (nI o.n)), (3, .int (nI k5)), (0, .ref lo), (1, .ref b.sm), (2, .int x)]) hx hb dL_act_477 hl (by decide) rfl (fun ls hl => ?_)
      refine lv_iload hx hb dL_act_479 (lv_at hl 0 rfl) ?_
      refine lv_iconst (v := 1) hx hb dL_act_481 (by decide) ?_
      refine lv_iadd hx hb dL_act_482 ?_
      refine lv_topi (fun v482 ev482 => ?_)
      refine lv_iload_n hx hb dL_act_483 rfl (lv_at hl 6 rfl) ?_
      refine lv_bipush (v := 6) hx hb dL_act_484 (by decide) ?_
      refine lv_ishr hx hb dL_act_486 ?_
      refine lv_topi (fun v486 ev486 => ?_)
      refine lv_iload hx hb dL_act_487 (lv_at hl 1 rfl) ?_
      refine lv_iconst (v := 1) hx hb dL_act_489 (by decide) ?_
      refine lv_isub hx hb dL_act_490 ?_
      rw [show nI o.nv - 1 = nI (o.nv - 1) from pk_sub (b := 1) (by omega)]
      refine ro_S (As := [.int v486, .int (nI (o.nv - 1))]) (rest := [.int v482]) ⟨hx, hb, hml, hown, hts⟩ (m_L_below l g (fun _ => eO 0 []) v486 (o.nv - 1) (by omega) (by omega)) (va_cwS 2 hts gL_act_L_below rfl rfl rfl (by decide +kernel) ⟨Nat.le_of_ble_eq_true rfl, Nat.le_of_ble_eq_true rfl⟩) hK (PP.of (fun b hb => absurd hb List.not_mem_nil)) rfl hl.1 rfl (Nat.le_of_ble_eq_true rfl) dL_act_491 ⟨Nat.le_of_ble_eq_true rfl, Nat.le_of_ble_eq_true rfl⟩ (fun r491 hr491 => ?_)
      obtain ⟨k491, hk491, rfl⟩ := hr491
      refine lv_iadd hx hb dL_act_494 ?_
      refine lv_topi (fun v494 ev494 => ?_)
      refine lv_iload hx hb dL_act_495 (lv_at hl 1 rfl) ?_
      refine lv_irem hx hb dL_act_497 (nI_ne0 (by omega) (by omega)) ?_
      refine lv_topi (fun v497 ev497 => ?_)
      obtain ⟨w9, hw9, hne9, ew9⟩ : ∃ w, w < o.nv ∧ k474 ≠ w ∧ v497 = nI w := ⟨(k474 + 1 + k491) % o.nv, Nat.mod_lt _ (by omega), from_ne (by omega) (by omega), (ev497.trans ((congrArg (fun z : Int32 => z - z / nI o.nv * nI o.nv) (ev494.trans (nat_add (ev482.trans (nat_add rfl rfl)) rfl))).trans (pk_rem (a := k474 + 1 + k491) (d := o.nv) (by omega) (by omega) (by omega))))⟩
      subst ew9
      refine lv_istore (lv' := [(7, .int (nI w9)), (6, .int (nI k474)), (5, .int (nI o.nv)), (4, .int (nI o.n)), (3, .int (nI k5)), (0, .ref lo), (1, .ref b.sm), (2, .int x)]) hx hb dL_act_498 hl (by decide) rfl (fun ls hl => ?_)
      refine lv_aload_n hx hb dL_act_500 rfl (lv_at hl 6 rfl) ?_
      obtain ⟨Ls9, fs9, hM9, hPs9⟩ := hW.sim
      refine pg_get (C := RX5) (T := TX5) (N := 6) hx hb hts hi_X5 hown hK hPs9 hM9.1 hM9.2.1 rfl 4 (by decide) (hts (.fieldLink RL 28 "BarometerLeagueLaw$Sim" "villages" "[[I") (by decide +kernel)) (fun _ h9 => h9) rfl dL_act_501 ?_
      refine lv_iload hx hb dL_act_504 (lv_at hl 1 rfl) ?_
      obtain ⟨Ls9, fs9, hM9, hPs9⟩ := hW.sim
      refine pn_rald (n := o.nv) (j := k474) hx hb hK hPs9 hM9.L_sv hM9.f_sv rfl (by omega) (by omega) (vilR_at (show k474 < o.nv by omega)) dL_act_506 ?_
      refine lv_iconst (v := 1) hx hb dL_act_507 (by decide) ?_
      obtain ⟨Ls9, fs9, hM9, hPs9⟩ := hW.sim
      obtain ⟨hLr9, z9, hfr9, hz9⟩ := hM9.hVR k474 (show k474 < o.nv by omega)
      refine pn_iald (j := 1) hx hb hK hPs9 hLr9 hfr9 rfl (by omega) (by omega) dL_act_508 ?_
      rw [show z9 1 = (o.vs k474).2.2.1 from hz9 1 (by omega)]
      refine lv_iconst (v := 5) hx hb dL_act_509 (by decide) ?_
      refine lv_icmp_lt (tgt := 517) hx hb dL_act_510 (by decide) (fun c510 => ?_) (fun c510 => ?_)
      · skip
        refine lv_iconst (v := 0) hx hb dL_act_517 (by decide) ?_
        refine lv_istore (lv' := [(8, .int 0), (7, .int (nI w9)), (6, .int (nI k474)), (5, .int (nI o.nv)), (4, .int (nI o.n)), (3, .int (nI k5)), (0, .ref lo), (1, .ref b.sm), (2, .int x)]) hx hb dL_act_518 hl (by decide) rfl (fun ls hl => ?_)
        refine lv_iload hx hb dL_act_520 (lv_at hl 0 rfl) ?_
        refine lv_if_eq (tgt := 600) hx hb dL_act_522 (by decide) (fun _ => ?_) (fun h => absurd (by decide) h)
        refine lv_aload_n hx hb dL_act_600 rfl (lv_at hl 6 rfl) ?_
        refine lv_iload hx hb dL_act_601 (lv_at hl 2 rfl) ?_
        refine lv_iload hx hb dL_act_603 (lv_at hl 1 rfl) ?_
        refine u_share ⟨hx, hb, hml, hown, hts⟩ hst hK hZ hW hok (by omega) (u := k474) (w := w9) (by omega) hw9 hne9 (cwV 2 hts gL_act_X4_share rfl rfl rfl (by decide +kernel) ⟨Nat.le_of_ble_eq_true rfl, Nat.le_of_ble_eq_true rfl⟩) hl.1 (Nat.le_of_ble_eq_true rfl) dL_act_605 ⟨Nat.le_of_ble_eq_true rfl, Nat.le_of_ble_eq_true rfl⟩ (fun ce q9 H locs hcoin hW hce hcv hcl => ?_) (fun H locs hcoin hW => ?_)
        · refine vx_catch (name := "java/lang/IllegalStateException") hown [] ⟨600, 634, 635, 67⟩ [] htab (fun _ h => absurd h List.not_mem_nil) (by decide) (by decide) (hts (.classLink RL 67 "java/lang/IllegalStateException") (by decide +kernel)) (hK.nest 58 rfl) hce hcv hcl ?_
          refine lv_astore (lv' := [(9, .ref q9), (8, .int 0), (7, .int (nI w9)), (6, .int (nI k474)), (5, .int (nI o.nv)), (4, .int (nI o.n)), (3, .int (nI k5)), (0, .ref lo), (1, .ref b.sm), (2, .int x)]) hx hb dL_act_635 hl (by decide) rfl (fun ls hl => ?_)
          refine lv_iload hx hb dL_act_637 (lv_at hl 1 rfl) ?_
          refine lv_if_ne (tgt := 646) hx hb dL_act_639 (by decide) (fun h => absurd h (by decide)) (fun _ => ?_)
          refine lv_iconst (v := 1) hx hb dL_act_642 (by decide) ?_
          refine lv_goto (tgt := 647) hx hb dL_act_643 (by decide) ?_
          exact hend 1 o b _ _ H locs _ _ _ _ rfl ⟨rfl, hok.mono (by omega)⟩ hW rfl (Nat.le_of_ble_eq_true rfl) (Nat.le_of_ble_eq_true rfl) dL_act_647
        · exact absurd c510 hcoin
      · skip
        refine lv_iconst (v := 1) hx hb dL_act_513 (by decide) ?_
        refine lv_goto (tgt := 518) hx hb dL_act_514 (by decide) ?_
        refine lv_istore (lv' := [(8, .int 1), (7, .int (nI w9)), (6, .int (nI k474)), (5, .int (nI o.nv)), (4, .int (nI o.n)), (3, .int (nI k5)), (0, .ref lo), (1, .ref b.sm), (2, .int x)]) hx hb dL_act_518 hl (by decide) rfl (fun ls hl => ?_)
        refine lv_iload hx hb dL_act_520 (lv_at hl 0 rfl) ?_
        refine lv_if_eq (tgt := 600) hx hb dL_act_522 (by decide) (fun h => absurd h (by decide)) (fun _ => ?_)
        refine lv_aload_n hx hb dL_act_525 rfl (lv_at hl 7 rfl) ?_
        obtain ⟨Ls9, fs9, hM9, hPs9⟩ := hW.sim
        refine pg_get (C := RX5) (T := TX5) (N := 6) hx hb hts hi_X5 hown hK hPs9 hM9.1 hM9.2.1 rfl 4 (by decide) (hts (.fieldLink RL 28 "BarometerLeagueLaw$Sim" "villages" "[[I") (by decide +kernel)) (fun _ h9 => h9) rfl dL_act_526 ?_
        refine lv_iload hx hb dL_act_529 (lv_at hl 2 rfl) ?_
        obtain ⟨Ls9, fs9, hM9, hPs9⟩ := hW.sim
        refine pn_rald (n := o.nv) (j := k474) hx hb hK hPs9 hM9.L_sv hM9.f_sv rfl (by omega) (by omega) (vilR_at (show k474 < o.nv by omega)) dL_act_531 ?_
        refine lv_iconst (v := 1) hx hb dL_act_532 (by decide) ?_
        refine lv_dup2_11 hx hb dL_act_533 rfl rfl ?_
        obtain ⟨Ls9, fs9, hM9, hPs9⟩ := hW.sim
        obtain ⟨hLr9, z9, hfr9, hz9⟩ := hM9.hVR k474 (show k474 < o.nv by omega)
        refine pn_iald (j := 1) hx hb hK hPs9 hLr9 hfr9 rfl (by omega) (by omega) dL_act_534 ?_
        rw [show z9 1 = (o.vs k474).2.2.1 from hz9 1 (by omega)]
        refine lv_iconst (v := 5) hx hb dL_act_535 (by decide) ?_
        refine lv_isub hx hb dL_act_536 ?_
        refine lv_topi (fun v536 ev536 => ?_)
        refine w_sst (os2 := ((o.d, o.n, o.nv, o.gl, o.rn, o.kd, o.nu, fun z => if z = k474 then coV (o.vs k474) v536 else o.vs z) : OB)) hx hb hK hW (j := 1) rfl (sw_coins (by omega)) dL_act_537 (fun H locs hW => ?_)
        refine lv_aload_n hx hb dL_act_538 rfl (lv_at hl 7 rfl) ?_
        obtain ⟨Ls9, fs9, hM9, hPs9⟩ := hW.sim
        refine pg_get (C := RX5) (T := TX5) (N := 6) hx hb hts hi_X5 hown hK hPs9 hM9.1 hM9.2.1 rfl 4 (by decide) (hts (.fieldLink RL 28 "BarometerLeagueLaw$Sim" "villages" "[[I") (by decide +kernel)) (fun _ h9 => h9) rfl dL_act_539 ?_
        refine lv_iload hx hb dL_act_542 (lv_at hl 1 rfl) ?_
        obtain ⟨Ls9, fs9, hM9, hPs9⟩ := hW.sim
        refine pn_rald (n := o.nv) (j := w9) hx hb hK hPs9 hM9.L_sv hM9.f_sv rfl (by omega) (by omega) (vilR_at (show w9 < o.nv by omega)) dL_act_544 ?_
        refine lv_iconst (v := 1) hx hb dL_act_545 (by decide) ?_
        refine lv_dup2_11 hx hb dL_act_546 rfl rfl ?_
        obtain ⟨Ls9, fs9, hM9, hPs9⟩ := hW.sim
        obtain ⟨hLr9, z9, hfr9, hz9⟩ := hM9.hVR w9 (show w9 < o.nv by omega)
        refine pn_iald (j := 1) hx hb hK hPs9 hLr9 hfr9 rfl (by omega) (by omega) dL_act_547 ?_
        rw [show z9 1 = ((fun z => if z = k474 then coV (o.vs k474) v536 else o.vs z) w9).2.2.1 from hz9 1 (by omega)]
        refine lv_iconst (v := 5) hx hb dL_act_548 (by decide) ?_
        refine lv_iadd hx hb dL_act_549 ?_
        refine lv_topi (fun v549 ev549 => ?_)
        refine w_sst (os2 := ((o.d, o.n, o.nv, o.gl, o.rn, o.kd, o.nu, fun z => if z = w9 then coV ((fun z => if z = k474 then coV (o.vs k474) v536 else o.vs z) w9) v549 else (fun z => if z = k474 then coV (o.vs k474) v536 else o.vs z) z) : OB)) hx hb hK hW (j := 1) rfl (sw_coins (by omega)) dL_act_550 (fun H locs hW => ?_)
        refine lv_iconst (v := 0) hx hb dL_act_551 (by decide) ?_
        refine lv_istore (lv' := [(9, .int 0), (8, .int 1), (7, .int (nI w9)), (6, .int (nI k474)), (5, .int (nI o.nv)), (4, .int (nI o.n)), (3, .int (nI k5)), (0, .ref lo), (1, .ref b.sm), (2, .int x)]) hx hb dL_act_552 hl (by decide) rfl (fun ls hl => ?_)
        subst ev536
        subst ev549
        have hW : WD g t lo b o ((o.d, o.n, o.nv, o.gl, o.rn, o.kd, o.nu, shV o k474 w9 0) : OB) [] (fun _ => eO 0 []) (AA (Lc ++ Ls) s.heap.size) s.heap H locs := hW.cg (shV_0 (o := o) hne9)
        have KS : ∀ (n i9 : Nat) (H : Heap) (locs : List Loc), 8 - i9 < n → i9 ≤ 8 → WD g t lo b o ((o.d, o.n, o.nv, o.gl, o.rn, o.kd, o.nu, shV o k474 w9 i9) : OB) [] (fun _ => eO 0 []) (AA (Lc ++ Ls) s.heap.size) s.heap H locs → ∀ (ls : Array Slot), lv_has ls 10 [(9, .int (nI i9)), (8, .int 1), (7, .int (nI w9)), (6, .int (nI k474)), (5, .int (nI o.nv)), (4, .int (nI o.n)), (3, .int (nI k5)), (0, .ref lo), (1, .ref b.sm), (2, .int x)] → W p l e ({ frames := 9, cells := 20, slots := 1000, locals := 200 } : Room) s m args below meth c H locs 0 0 Q (F0 m 554 ls []) := by
          intro n
          induction n with
          | zero => intros; omega
          | succ n ih =>
            intro i9 H locs hm9 hi9 hW ls hl
            refine lv_iload hx hb dL_act_554 (lv_at hl 0 rfl) ?_
            refine lv_bipush (v := 8) hx hb dL_act_556 (by decide) ?_
            refine lv_icmp_ge (tgt := 600) hx hb dL_act_558 (by decide) (fun c558 => ?_) (fun c558 => ?_)
            · have c558 : 8 ≤ i9 := (nI_leI (a := 8) (b := i9) (by omega) (by omega)).mp c558
              obtain rfl : i9 = 8 := by omega
              have hW : WD g t lo b o (shO o k474 w9) [] (fun _ => eO 0 []) (AA (Lc ++ Ls) s.heap.size) s.heap H locs := hW.cg (shV_8 hne9)
              refine lv_aload_n hx hb dL_act_600 rfl (lv_at hl 7 rfl) ?_
              refine lv_iload hx hb dL_act_601 (lv_at hl 3 rfl) ?_
              refine lv_iload hx hb dL_act_603 (lv_at hl 2 rfl) ?_
              refine u_share ⟨hx, hb, hml, hown, hts⟩ hst hK hZ hW hok (by omega) (u := k474) (w := w9) (by omega) hw9 hne9 (cwV 2 hts gL_act_X4_share rfl rfl rfl (by decide +kernel) ⟨Nat.le_of_ble_eq_true rfl, Nat.le_of_ble_eq_true rfl⟩) hl.1 (Nat.le_of_ble_eq_true rfl) dL_act_605 ⟨Nat.le_of_ble_eq_true rfl, Nat.le_of_ble_eq_true rfl⟩ (fun ce q9 H locs hcoin hW hce hcv hcl => ?_) (fun H locs hcoin hW => ?_)
              · exact absurd hcoin c510
              · skip
                refine lv_istore (lv' := [(9, .int ((o.vs k474).2.2.1 - 5)), (8, .int 1), (7, .int (nI w9)), (6, .int (nI k474)), (5, .int (nI o.nv)), (4, .int (nI o.n)), (3, .int (nI k5)), (0, .ref lo), (1, .ref b.sm), (2, .int x)]) hx hb dL_act_608 hl (by decide) rfl (fun ls hl => ?_)
                refine lv_iload hx hb dL_act_610 (lv_at hl 1 rfl) ?_
                refine lv_if_eq (tgt := 633) hx hb dL_act_612 (by decide) (fun h => absurd h (by decide)) (fun _ => ?_)
                refine lv_iload hx hb dL_act_615 (lv_at hl 0 rfl) ?_
                refine lv_aload_n hx hb dL_act_617 rfl (lv_at hl 8 rfl) ?_
                obtain ⟨Ls9, fs9, hM9, hPs9⟩ := hW.sim
                refine pg_get (C := RX5) (T := TX5) (N := 6) hx hb hts hi_X5 hown hK hPs9 hM9.1 hM9.2.1 rfl 4 (by decide) (hts (.fieldLink RL 28 "BarometerLeagueLaw$Sim" "villages" "[[I") (by decide +kernel)) (fun _ h9 => h9) rfl dL_act_618 ?_
                refine lv_iload hx hb dL_act_621 (lv_at hl 3 rfl) ?_
                obtain ⟨Ls9, fs9, hM9, hPs9⟩ := hW.sim
                refine pn_rald (n := o.nv) (j := k474) hx hb hK hPs9 hM9.L_sv hM9.f_sv rfl (by omega) (by omega) (vilR_at (show k474 < o.nv by omega)) dL_act_623 ?_
                refine lv_iconst (v := 1) hx hb dL_act_624 (by decide) ?_
                obtain ⟨Ls9, fs9, hM9, hPs9⟩ := hW.sim
                obtain ⟨hLr9, z9, hfr9, hz9⟩ := hM9.hVR k474 (show k474 < o.nv by omega)
                refine pn_iald (j := 1) hx hb hK hPs9 hLr9 hfr9 rfl (by omega) (by omega) dL_act_625 ?_
                rw [show z9 1 = (((shO o k474 w9).vs) k474).2.2.1 from hz9 1 (by omega)]
                refine lv_icmp_ne (tgt := 633) hx hb dL_act_626 (by decide) (fun h => absurd (shO_c hne9).symm h) (fun _ => ?_)
                refine lv_iconst (v := 1) hx hb dL_act_629 (by decide) ?_
                refine lv_goto (tgt := 634) hx hb dL_act_630 (by decide) ?_
                exact hend 1 (shO o k474 w9) b _ _ H locs _ _ _ _ rfl ⟨rfl, (ok_share hok (by omega) hw9 hcoin (by omega)).mono (by omega)⟩ hW rfl (Nat.le_of_ble_eq_true rfl) (Nat.le_of_ble_eq_true rfl) dL_act_634
            · have c558 : i9 < 8 := Nat.lt_of_not_le (fun z => c558 (nI_le (a := 8) z (by omega)))
              refine lv_aload_n hx hb dL_act_561 rfl (lv_at hl 8 rfl) ?_
              obtain ⟨Ls9, fs9, hM9, hPs9⟩ := hW.sim
              refine pg_get (C := RX5) (T := TX5) (N := 6) hx hb hts hi_X5 hown hK hPs9 hM9.1 hM9.2.1 rfl 5 (by decide) (hts (.fieldLink RL 53 "BarometerLeagueLaw$Sim" "weights" "[[I") (by decide +kernel)) (fun _ h9 => h9) rfl dL_act_562 ?_
              refine lv_iload hx hb dL_act_565 (lv_at hl 3 rfl) ?_
              obtain ⟨Ls9, fs9, hM9, hPs9⟩ := hW.sim
              refine pn_rald (n := o.nv) (j := k474) hx hb hK hPs9 hM9.L_sw hM9.f_sw rfl (by omega) (by omega) (vilR_at (show k474 < o.nv by omega)) dL_act_567 ?_
              refine lv_iload hx hb dL_act_568 (lv_at hl 0 rfl) ?_
              refine lv_aload_n hx hb dL_act_570 rfl (lv_at hl 8 rfl) ?_
              obtain ⟨Ls9, fs9, hM9, hPs9⟩ := hW.sim
              refine pg_get (C := RX5) (T := TX5) (N := 6) hx hb hts hi_X5 hown hK hPs9 hM9.1 hM9.2.1 rfl 5 (by decide) (hts (.fieldLink RL 53 "BarometerLeagueLaw$Sim" "weights" "[[I") (by decide +kernel)) (fun _ h9 => h9) rfl dL_act_571 ?_
              refine lv_iload hx hb dL_act_574 (lv_at hl 3 rfl) ?_
              obtain ⟨Ls9, fs9, hM9, hPs9⟩ := hW.sim
              refine pn_rald (n := o.nv) (j := k474) hx hb hK hPs9 hM9.L_sw hM9.f_sw rfl (by omega) (by omega) (vilR_at (show k474 < o.nv by omega)) dL_act_576 ?_
              refine lv_iload hx hb dL_act_577 (lv_at hl 0 rfl) ?_
              obtain ⟨Ls9, fs9, hM9, hPs9⟩ := hW.sim
              obtain ⟨hLr9, z9, hfr9, hz9⟩ := hM9.hWR k474 (show k474 < o.nv by omega)
              refine pn_iald (j := i9) hx hb hK hPs9 hLr9 hfr9 rfl (by omega) (by omega) dL_act_579 ?_
              rw [show z9 i9 = ((shV o k474 w9 i9) k474).2.2.2.2 i9 from hz9 i9 (by omega)]
              refine lv_aload_n hx hb dL_act_580 rfl (lv_at hl 8 rfl) ?_
              obtain ⟨Ls9, fs9, hM9, hPs9⟩ := hW.sim
              refine pg_get (C := RX5) (T := TX5) (N := 6) hx hb hts hi_X5 hown hK hPs9 hM9.1 hM9.2.1 rfl 5 (by decide) (hts (.fieldLink RL 53 "BarometerLeagueLaw$Sim" "weights" "[[I") (by decide +kernel)) (fun _ h9 => h9) rfl dL_act_581 ?_
              refine lv_iload hx hb dL_act_584 (lv_at hl 2 rfl) ?_
              obtain ⟨Ls9, fs9, hM9, hPs9⟩ := hW.sim
              refine pn_rald (n := o.nv) (j := w9) hx hb hK hPs9 hM9.L_sw hM9.f_sw rfl (by omega) (by omega) (vilR_at (show w9 < o.nv by omega)) dL_act_586 ?_
              refine lv_iload hx hb dL_act_587 (lv_at hl 0 rfl) ?_
              obtain ⟨Ls9, fs9, hM9, hPs9⟩ := hW.sim
              obtain ⟨hLr9, z9, hfr9, hz9⟩ := hM9.hWR w9 (show w9 < o.nv by omega)
              refine pn_iald (j := i9) hx hb hK hPs9 hLr9 hfr9 rfl (by omega) (by omega) dL_act_589 ?_
              rw [show z9 i9 = ((shV o k474 w9 i9) w9).2.2.2.2 i9 from hz9 i9 (by omega)]
              refine lv_iadd hx hb dL_act_590 ?_
              refine lv_topi (fun v590 ev590 => ?_)
              refine lv_iconst (v := 2) hx hb dL_act_591 (by decide) ?_
              refine lv_idiv hx hb dL_act_592 (by decide) ?_
              refine lv_topi (fun v592 ev592 => ?_)
              refine w_sst (os2 := ((o.d, o.n, o.nv, o.gl, o.rn, o.kd, o.nu, fun z => if z = k474 then setW ((shV o k474 w9 i9) k474) (upd ((shV o k474 w9 i9) k474).2.2.2.2 i9 v592) else (shV o k474 w9 i9) z) : OB)) hx hb hK hW (j := i9) rfl (sw_wt (by omega) (by omega)) dL_act_593 (fun H locs hW => ?_)
              refine lv_iinc (v := nI (i9 + 1)) (lv' := [(9, .int (nI (i9 + 1))), (8, .int 1), (7, .int (nI w9)), (6, .int (nI k474)), (5, .int (nI o.nv)), (4, .int (nI o.n)), (3, .int (nI k5)), (0, .ref lo), (1, .ref b.sm), (2, .int x)]) hx hb dL_act_594 hl (k := 0) rfl (nI_1 _) (by decide) rfl (fun ls hl => ?_)
              refine lv_goto (tgt := 554) hx hb dL_act_597 (by decide) ?_
              exact ih (i9 + 1) H locs (by omega) (by omega) (hW.cg (shV_s c558 hne9 (by rw [ev592, ev590]))) ls hl
        exact KS 9 0 H locs (by omega) (by omega) hW ls (lv_sub hl [0, 1, 2, 3, 4, 5, 6, 7, 8, 9] rfl)
    · skip
      have c464 : ¬ 2 ≤ o.nv := fun h => c464 ((nI_leI (a := 2) (b := o.nv) (by omega) (by omega)).mpr h)
      refine lv_iconst (v := 1) hx hb dL_act_467 (by decide) ?_
      exact hend 1 o b _ _ H locs _ _ _ _ rfl ⟨rfl, hok.mono (by omega)⟩ hW rfl (Nat.le_of_ble_eq_true rfl) (Nat.le_of_ble_eq_true rfl) dL_act_468
  have q29_9 : (nI k26).toInt ≠ 9 := by rw [nI_toInt (by omega)]; omega
  refine lv_tableOut (tgt := 648) hx hb dL_act_29 (by omega) (by decide) ?_
  refine lv_aload_n hx hb dL_act_648 rfl (lv_at hl 3 rfl) ?_
  refine lv_aload_n hx hb dL_act_649 rfl (lv_at hl 4 rfl) ?_
  refine lv_iconst (v := 1) hx hb dL_act_650 (by decide) ?_
  refine lv_iload_n hx hb dL_act_651 rfl (lv_at hl 5 rfl) ?_
  refine lv_iconst (v := 4) hx hb dL_act_652 (by decide) ?_
  refine lv_ishr hx hb dL_act_653 ?_
  refine lv_topi (fun v653 ev653 => ?_)
  refine lv_iload_n hx hb dL_act_654 rfl (lv_at hl 5 rfl) ?_
  refine lv_bipush (v := 8) hx hb dL_act_655 (by decide) ?_
  refine lv_ishr hx hb dL_act_657 ?_
  refine lv_topi (fun v657 ev657 => ?_)
  refine lv_iconst (v := 4) hx hb dL_act_658 (by decide) ?_
  refine ro_S (As := [.int v657, .int (nI 4)]) (rest := [.int v653, .int 1, .ref b.sm, .ref lo]) ⟨hx, hb, hml, hown, hts⟩ (m_L_below l g (fun _ => eO 0 []) v657 4 (by omega) (by omega)) (va_cwS 2 hts gL_act_L_below rfl rfl rfl (by decide +kernel) ⟨Nat.le_of_ble_eq_true rfl, Nat.le_of_ble_eq_true rfl⟩) hK (PP.of (fun b hb => absurd hb List.not_mem_nil)) rfl hl.1 rfl (Nat.le_of_ble_eq_true rfl) dL_act_659 ⟨Nat.le_of_ble_eq_true rfl, Nat.le_of_ble_eq_true rfl⟩ (fun r659 hr659 => ?_)
  obtain ⟨k659, hk659, rfl⟩ := hr659
  refine lv_if_ne (tgt := 670) hx hb dL_act_662 (by decide) (fun c662 => ?_) (fun c662 => ?_)
  · skip
    have c662 : ¬ k659 = 0 := fun h => c662 ((nI_eq (a := k659) (b := 0) (by omega) (by omega)).mpr h)
    refine lv_iconst (v := 5) hx hb dL_act_670 (by decide) ?_
    refine ro_S (As := [.int v653, .int (nI 5)]) (rest := [.int 1, .ref b.sm, .ref lo]) ⟨hx, hb, hml, hown, hts⟩ (m_L_below l g (fun _ => eO 0 []) v653 5 (by omega) (by omega)) (va_cwS 2 hts gL_act_L_below rfl rfl rfl (by decide +kernel) ⟨Nat.le_of_ble_eq_true rfl, Nat.le_of_ble_eq_true rfl⟩) hK (PP.of (fun b hb => absurd hb List.not_mem_nil)) rfl hl.1 rfl (Nat.le_of_ble_eq_true rfl) dL_act_671 ⟨Nat.le_of_ble_eq_true rfl, Nat.le_of_ble_eq_true rfl⟩ (fun r671 hr671 => ?_)
    obtain ⟨k671, hk671, rfl⟩ := hr671
    refine lv_iadd hx hb dL_act_674 ?_
    refine lv_topi (fun v674 ev674 => ?_)
    rw [show v674 = nI (1 + k671) from (ev674.trans (nat_add rfl rfl))]
    refine dw_S (As := [.int (nI (1 + k671))]) (rest := []) ⟨hx, hb, hml, hown, hts⟩ hK hZ hDS hW (fun a Lc fc Ls fs e1 e2 e3 e4 e5 e6 => m_L_passed l hst g _ t lo Lc Ls fc fs a b o M (1 + k671) e1 e2 e3 e4 e5 e6 hok (by omega) (by omega) (by omega)) (va_cwS 3 hts gL_act_L_passed rfl rfl rfl (by decide +kernel) ⟨Nat.le_of_ble_eq_true rfl, Nat.le_of_ble_eq_true rfl⟩) rfl hl.1 rfl (Nat.le_of_ble_eq_true rfl) dL_act_675 ⟨Nat.le_of_ble_eq_true rfl, Nat.le_of_ble_eq_true rfl⟩ (fun r o2 b2 H locs hb2 hp hW => ?_)
    obtain ⟨rfl, rfl⟩ := hp
    exact hend 1 _ b2 _ _ H locs _ _ _ _ hb2 ⟨rfl, (hok.it (1 + k671) (by omega)).mono (by omega)⟩ hW rfl (Nat.le_of_ble_eq_true rfl) (Nat.le_of_ble_eq_true rfl) dL_act_678
  · skip
    have c662 : k659 = 0 := (nI_eq (a := k659) (b := 0) (by omega) (by omega)).mp (show nI k659 = nI 0 from c662)
    refine lv_bipush (v := 40) hx hb dL_act_665 (by decide) ?_
    refine lv_goto (tgt := 671) hx hb dL_act_667 (by decide) ?_
    refine ro_S (As := [.int v653, .int (nI 40)]) (rest := [.int 1, .ref b.sm, .ref lo]) ⟨hx, hb, hml, hown, hts⟩ (m_L_below l g (fun _ => eO 0 []) v653 40 (by omega) (by omega)) (va_cwS 2 hts gL_act_L_below rfl rfl rfl (by decide +kernel) ⟨Nat.le_of_ble_eq_true rfl, Nat.le_of_ble_eq_true rfl⟩) hK (PP.of (fun b hb => absurd hb List.not_mem_nil)) rfl hl.1 rfl (Nat.le_of_ble_eq_true rfl) dL_act_671 ⟨Nat.le_of_ble_eq_true rfl, Nat.le_of_ble_eq_true rfl⟩ (fun r671 hr671 => ?_)
    obtain ⟨k671, hk671, rfl⟩ := hr671
    refine lv_iadd hx hb dL_act_674 ?_
    refine lv_topi (fun v674 ev674 => ?_)
    rw [show v674 = nI (1 + k671) from (ev674.trans (nat_add rfl rfl))]
    refine dw_S (As := [.int (nI (1 + k671))]) (rest := []) ⟨hx, hb, hml, hown, hts⟩ hK hZ hDS hW (fun a Lc fc Ls fs e1 e2 e3 e4 e5 e6 => m_L_passed l hst g _ t lo Lc Ls fc fs a b o M (1 + k671) e1 e2 e3 e4 e5 e6 hok (by omega) (by omega) (by omega)) (va_cwS 3 hts gL_act_L_passed rfl rfl rfl (by decide +kernel) ⟨Nat.le_of_ble_eq_true rfl, Nat.le_of_ble_eq_true rfl⟩) rfl hl.1 rfl (Nat.le_of_ble_eq_true rfl) dL_act_675 ⟨Nat.le_of_ble_eq_true rfl, Nat.le_of_ble_eq_true rfl⟩ (fun r o2 b2 H locs hb2 hp hW => ?_)
    obtain ⟨rfl, rfl⟩ := hp
    exact hend 1 _ b2 _ _ H locs _ _ _ _ hb2 ⟨rfl, (hok.it (1 + k671) (by omega)).mono (by omega)⟩ hW rfl (Nat.le_of_ble_eq_true rfl) (Nat.le_of_ble_eq_true rfl) dL_act_678
