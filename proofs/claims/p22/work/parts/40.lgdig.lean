set_option maxHeartbeats 4000000 in
set_option maxRecDepth 100000 in
theorem m_X4_digestWith (l : Launch) (g : GG) (L : List Nat) (f : Nat → va_E) (d : Int64) (x : Int32) : RK l g yX4_digestWith wsX4_digestWith 0 0 L f [.long d, .int x] (fun r => r = dW d x) := by
  refine RK.start (cc := cX4_digestWith) (maxL := 3) (by decide +kernel) rfl (by simp [lg_sl, Value.category]) ?_
  intro p e s m args below meth c Q ls hx hb hml hts hown hP hK hl hend
  have hl : lv_has ls 3 [(0, .long d), (2, .int x)] := hl
  refine lv_lload_n hx hb dX4_digestWith_0 rfl (lv_at hl 0 rfl) ?_
  refine lv_ldc2 (v := 31) hx hb hown (hts (.constantLong RX4 234 (31)) (by decide +kernel)) dX4_digestWith_1 ?_
  refine lv_lmul hx hb dX4_digestWith_4 ?_
  refine lv_topl (fun v4 ev4 => ?_)
  refine lv_iload_n hx hb dX4_digestWith_5 rfl (lv_at hl 1 rfl) ?_
  refine lv_i2l (v := x.toInt64) hx hb dX4_digestWith_6 rfl ?_
  refine lv_ladd hx hb dX4_digestWith_7 ?_
  refine lv_topl (fun v7 ev7 => ?_)
  exact hend (v7) _ _ (by rw [ev7, ev4]; rfl) dX4_digestWith_8

set_option maxHeartbeats 4000000 in
set_option maxRecDepth 100000 in
theorem m_X4_digest (l : Launch) (hst : l.stackTraces = false) (g : GG) (L : List Nat) (f : Nat → va_E) (sz : Nat) (hN : L.Nodup) (lo we al rv d sy rt ed n ga ra : Nat) (mo : Int32) (gl rn sa kd nu : Nat → Int32) (so : Nat → Nat) (el : Nat → Option Nat) (pa nv : Nat) (pl : Nat → Option Nat) (ad aw : Nat → Nat) (vs : Nat → VV) (hL_lo : lo ∈ L) (hf_lo : f lo = eO 5 [.ref we, .ref al, .ref rv, .int (nI d), .ref sy, .ref rt]) (hL_al : al ∈ L) (hf_al : f al = eO 0 [.int mo, .ref ed, .int (nI n)]) (hL_we : we ∈ L) (hf_we : f we = eO 4 [.ref ga, .ref ra]) (hL_ga : ga ∈ L) (hf_ga : f ga = eI g 12 gl) (hL_ra : ra ∈ L) (hf_ra : f ra = eZ g 12 rn) (hL_sy : sy ∈ L) (hf_sy : f sy = eI g 8 sa) (hL_rv : rv ∈ L) (hf_rv : f rv = eO 3 [.ref pa, .int (nI nv)]) (hL_pa : pa ∈ L) (hf_pa : f pa = eV g 6 pl) (hn : n ≤ 8) (hrn : ∀ k, k < 12 → ∃ b, rn k = b2i b) (hSg : Sgs g L f n ed so el kd nu) (hnv : nv ≤ 6) (hpl : ∀ v, v < 6 → pl v = some (ad v)) (hV : Vils g L f 6 ad aw vs) (hD : Dst 6 ad aw) (hd : d < 2 ^ 30) (hsy : ∀ v, v < 6 → sy ≠ aw v) : TL l g yX4_digest wsX4_digest 8 135 260 1560 L f sz [.ref lo] (fun r f2 => r = digL (fun k => countL (saS kd nu gl rn n d sa) rn vs n nv d k) gl rn (fun z k => toldL kd nu gl rn vs nv z k) n (fun v k => aboutL (saS kd nu gl rn n d sa) vs n nv v k) (fun v k => (vs v).2.2.2.2 k) nv ∧ (∃ sx, (sx = sa ∨ sx = saS kd nu gl rn n d sa) ∧ f2 sy = eI g 8 sx) ∧ Fr f f2 [sy]) (fun _ => False) := by
  refine TL.start (cc := cX4_digest) (maxL := 5) hst (by decide) rfl (by simp [lg_sl, Value.category]) (by decide) (by decide) ?_
  intro p e s m args below meth c Q ls hx hb hml hts hown hS hP hK hZ hl hend hthr hprop
  have hA : ∀ a ∈ L, AA L s.heap.size a := fun _ h => Or.inl h
  have hA2 : ∀ q, s.heap.size ≤ q → AA L s.heap.size q := fun _ h => Or.inr h
  have hl : lv_has ls 5 [(0, .ref lo)] := hl
  have hi_X4 : ∀ w ∈ u_ws RX4 TX4 6, w ∈ wsX4_digest := by decide +kernel
  have hFr : Fr f f [sy] := Fr.rf
  have n_lo_al : lo ≠ al := ne_e hf_lo hf_al (by simp)
  have n_lo_we : lo ≠ we := ne_e hf_lo hf_we (by simp)
  have n_lo_ga : lo ≠ ga := ne_e hf_lo hf_ga (by simp)
  have n_lo_ra : lo ≠ ra := ne_e hf_lo hf_ra (by simp)
  have n_lo_sy : lo ≠ sy := ne_e hf_lo hf_sy (by simp)
  have n_lo_rv : lo ≠ rv := ne_e hf_lo hf_rv (by simp)
  have n_lo_pa : lo ≠ pa := ne_e hf_lo hf_pa (by simp)
  have n_al_we : al ≠ we := ne_e hf_al hf_we (by simp)
  have n_al_ga : al ≠ ga := ne_e hf_al hf_ga (by simp)
  have n_al_ra : al ≠ ra := ne_e hf_al hf_ra (by simp)
  have n_al_sy : al ≠ sy := ne_e hf_al hf_sy (by simp)
  have n_al_rv : al ≠ rv := ne_e hf_al hf_rv (by simp)
  have n_al_pa : al ≠ pa := ne_e hf_al hf_pa (by simp)
  have n_we_ga : we ≠ ga := ne_e hf_we hf_ga (by simp)
  have n_we_ra : we ≠ ra := ne_e hf_we hf_ra (by simp)
  have n_we_sy : we ≠ sy := ne_e hf_we hf_sy (by simp)
  have n_we_rv : we ≠ rv := ne_e hf_we hf_rv (by simp)
  have n_we_pa : we ≠ pa := ne_e hf_we hf_pa (by simp)
  have n_ga_sy : ga ≠ sy := ne_e hf_ga hf_sy (by simp)
  have n_ga_rv : ga ≠ rv := ne_e hf_ga hf_rv (by simp)
  have n_ga_pa : ga ≠ pa := ne_e hf_ga hf_pa (by simp)
  have n_ra_sy : ra ≠ sy := ne_e hf_ra hf_sy (by simp)
  have n_ra_rv : ra ≠ rv := ne_e hf_ra hf_rv (by simp)
  have n_ra_pa : ra ≠ pa := ne_e hf_ra hf_pa (by simp)
  have n_sy_rv : sy ≠ rv := ne_e hf_sy hf_rv (by simp)
  have n_sy_pa : sy ≠ pa := ne_e hf_sy hf_pa (by simp)
  have n_rv_pa : rv ≠ pa := ne_e hf_rv hf_pa (by simp)
  have h0f_lo := hf_lo
  have h0f_al := hf_al
  have h0f_we := hf_we
  have h0f_ga := hf_ga
  have h0f_ra := hf_ra
  have h0f_sy := hf_sy
  have h0f_rv := hf_rv
  have h0f_pa := hf_pa
  have off_lo : Off 6 ad aw lo := Off.of hV hf_lo (by simp) (by simp)
  have off_al : Off 6 ad aw al := Off.of hV hf_al (by simp) (by simp)
  have off_rv : Off 6 ad aw rv := Off.of hV hf_rv (by simp) (by simp)
  have off_pa : Off 6 ad aw pa := Off.of hV hf_pa (by simp) (by simp)
  have off_we : Off 6 ad aw we := Off.of hV hf_we (by simp) (by simp)
  have off_ga : Off 6 ad aw ga := Off.of hV hf_ga (by simp) (by simp)
  have off_ra : Off 6 ad aw ra := Off.of hV hf_ra (by simp) (by simp)
  have off_sy : Off 6 ad aw sy := Off.ofI hV hf_sy hsy
  have h0_hSg := hSg
  have h0_hV := hV
  obtain ⟨SA, hSA⟩ : ∃ z, z = saS kd nu gl rn n d sa := ⟨_, rfl⟩
  refine lv_ldc2 (v := 1459) hx hb hown (hts (.constantLong RX4 215 (1459)) (by decide +kernel)) dX4_digest_0 ?_
  refine lv_lstore_n (lv' := [(1, .long 1459), (0, .ref lo)]) hx hb dX4_digest_3 rfl hl (by decide) rfl (fun ls hl => ?_)
  refine lv_iconst (v := 0) hx hb dX4_digest_4 (by decide) ?_
  refine lv_istore_n (lv' := [(3, .int 0), (1, .long 1459), (0, .ref lo)]) hx hb dX4_digest_5 rfl hl (by decide) rfl (fun ls hl => ?_)
  have K6 : ∀ (n6 : Nat) (i : Nat) (acc : Int64) (sx : Nat → Int32) (f6 : Nat → va_E) (H : Heap) (locs : List Loc), 8 - i < n6 → i ≤ 7 → acc = dgN (fun k => countL SA rn vs n nv d k) 1459 i → sx = sa ∨ sx = SA → f6 sy = eI g 8 sx → Fr f f6 [sy] → PP g L f6 H → va_S (AA L s.heap.size) s.heap H locs → ∀ (ls : Array Slot), lv_has ls 5 [(3, .int (nI i)), (1, .long acc), (0, .ref lo)] → W p l e ({ frames := 8, cells := 260, slots := 1560, locals := 135 } : Room) s m args below meth c H locs (i) (6 * (i)) Q (F0 m 6 ls []) := by
    intro n6
    induction n6 with
    | zero => intros; omega
    | succ n6 ih6 =>
      intro i acc sx f6 H locs hm6 hi ha hsx hq6_0 hFr hP hS ls hl
      have hf_lo : f6 lo = eO 5 [.ref we, .ref al, .ref rv, .int (nI d), .ref sy, .ref rt] := hFr.get h0f_lo (nm_c n_lo_sy (List.not_mem_nil))
      have hf_al : f6 al = eO 0 [.int mo, .ref ed, .int (nI n)] := hFr.get h0f_al (nm_c n_al_sy (List.not_mem_nil))
      have hf_we : f6 we = eO 4 [.ref ga, .ref ra] := hFr.get h0f_we (nm_c n_we_sy (List.not_mem_nil))
      have hf_ga : f6 ga = eI g 12 gl := hFr.get h0f_ga (nm_c n_ga_sy (List.not_mem_nil))
      have hf_ra : f6 ra = eZ g 12 rn := hFr.get h0f_ra (nm_c n_ra_sy (List.not_mem_nil))
      have hf_rv : f6 rv = eO 3 [.ref pa, .int (nI nv)] := hFr.get h0f_rv (nm_c n_sy_rv.symm (List.not_mem_nil))
      have hf_pa : f6 pa = eV g 6 pl := hFr.get h0f_pa (nm_c n_sy_pa.symm (List.not_mem_nil))
      have hf_sy : f6 sy = eI g 8 sx := hq6_0
      have hSg : Sgs g L f6 n ed so el kd nu := h0_hSg.frI hFr h0f_sy
      have hV : Vils g L f6 6 ad aw vs := h0_hV.fr1 hFr off_sy
      refine lv_iload_n hx hb dX4_digest_6 rfl (lv_at hl 0 rfl) ?_
      refine lv_bipush (v := 6) hx hb dX4_digest_7 (by decide) ?_
      refine lv_icmp_gt (tgt := 28) hx hb dX4_digest_9 (by decide) (fun c9 => ?_) (fun c9 => ?_)
      · skip
        have c9 : 6 < i := (nI_ltI (a := 6) (b := i) (by omega) (by omega)).mp (show nI 6 < nI i from c9)
        obtain rfl : i = 7 := by omega
        refine lv_iconst (v := 0) hx hb dX4_digest_28 (by decide) ?_
        refine lv_istore_n (lv' := [(3, .int 0), (1, .long acc), (0, .ref lo)]) hx hb dX4_digest_29 rfl hl (by decide) rfl (fun ls hl => ?_)
        have K30 : ∀ (n30 : Nat) (i : Nat) (acc2 : Int64) (H : Heap) (locs : List Loc), 13 - i < n30 → i ≤ 12 → acc2 = dgT gl rn (dgN (fun k => countL SA rn vs n nv d k) 1459 7) i → PP g L f6 H → va_S (AA L s.heap.size) s.heap H locs → ∀ (ls : Array Slot), lv_has ls 5 [(3, .int (nI i)), (1, .long acc2), (0, .ref lo)] → W p l e ({ frames := 8, cells := 260, slots := 1560, locals := 135 } : Room) s m args below meth c H locs (7) (6 * (7)) Q (F0 m 30 ls []) := by
          intro n30
          induction n30 with
          | zero => intros; omega
          | succ n30 ih30 =>
            intro i acc2 H locs hm30 hi ha hP hS ls hl
            refine lv_iload_n hx hb dX4_digest_30 rfl (lv_at hl 0 rfl) ?_
            refine lv_bipush (v := 12) hx hb dX4_digest_31 (by decide) ?_
            refine lv_icmp_ge (tgt := 76) hx hb dX4_digest_33 (by decide) (fun c33 => ?_) (fun c33 => ?_)
            · skip
              have c33 : 12 ≤ i := (nI_leI (a := 12) (b := i) (by omega) (by omega)).mp (show nI 12 ≤ nI i from c33)
              obtain rfl : i = 12 := by omega
              refine lv_iconst (v := 0) hx hb dX4_digest_76 (by decide) ?_
              refine lv_istore_n (lv' := [(3, .int 0), (1, .long acc2), (0, .ref lo)]) hx hb dX4_digest_77 rfl hl (by decide) rfl (fun ls hl => ?_)
              have K78 : ∀ (n78 : Nat) (i : Nat) (acc3 : Int64) (H : Heap) (locs : List Loc), n + 1 - i < n78 → i ≤ n → acc3 = dgS (fun z k => toldL kd nu gl rn vs nv z k) 4 (dgT gl rn (dgN (fun k => countL SA rn vs n nv d k) 1459 7) 12) i → PP g L f6 H → va_S (AA L s.heap.size) s.heap H locs → ∀ (ls : Array Slot), lv_has ls 5 [(3, .int (nI i)), (1, .long acc3), (0, .ref lo)] → W p l e ({ frames := 8, cells := 260, slots := 1560, locals := 135 } : Room) s m args below meth c H locs (7 + 8 * i) (6 * (7 + 8 * i)) Q (F0 m 78 ls []) := by
                intro n78
                induction n78 with
                | zero => intros; omega
                | succ n78 ih78 =>
                  intro i acc3 H locs hm78 hi ha hP hS ls hl
                  refine lv_iload_n hx hb dX4_digest_78 rfl (lv_at hl 0 rfl) ?_
                  refine lv_aload_n hx hb dX4_digest_79 rfl (lv_at hl 2 rfl) ?_
                  refine pg_get (C := RX4) (T := TX4) (N := 6) hx hb hts hi_X4 hown hK hP hL_lo hf_lo rfl 1 (by decide) (hts (.fieldLink RX4 19 "BarometerLeague" "signs" "Ljava/util/ArrayList;") (by decide +kernel)) (fun _ h9 => h9) rfl dX4_digest_80 ?_
                  refine ro_V (As := []) (rest := [.int (nI i)]) ⟨hx, hb, hml, hown, hts⟩ (m_Jx4a65c_size_8abf5 l g L f6 _ _ _ _ hL_al hf_al) (cwV 0 hts gX4_digest_Jx4a65c_size_8abf5 rfl rfl rfl (by decide +kernel) ⟨Nat.le_of_ble_eq_true rfl, Nat.le_of_ble_eq_true rfl⟩) hK hP hL_al hf_al rfl rfl hl.1 rfl (Nat.le_of_ble_eq_true rfl) dX4_digest_83 ⟨(by show 7 + 8 * i ≤ 260; omega), (by show 6 * (7 + 8 * i) ≤ 1560; omega)⟩ (fun r83 hr83 => ?_)
                  have hr83 : r83 = nI n := hr83
                  subst hr83
                  refine lv_icmp_ge (tgt := 122) hx hb dX4_digest_86 (by decide) (fun c86 => ?_) (fun c86 => ?_)
                  · skip
                    have c86 : n ≤ i := (nI_leI (a := n) (b := i) (by omega) (by omega)).mp (show nI n ≤ nI i from c86)
                    obtain rfl : n = i := by omega
                    refine lv_iconst (v := 0) hx hb dX4_digest_122 (by decide) ?_
                    refine lv_istore_n (lv' := [(3, .int 0), (1, .long acc3), (0, .ref lo)]) hx hb dX4_digest_123 rfl hl (by decide) rfl (fun ls hl => ?_)
                    have K124 : ∀ (n124 : Nat) (i : Nat) (acc5 : Int64) (sx : Nat → Int32) (f124 : Nat → va_E) (H : Heap) (locs : List Loc), nv + 1 - i < n124 → i ≤ nv → acc5 = dgV (fun v k => aboutL SA vs n nv v k) (fun v k => (vs v).2.2.2.2 k) n (dgS (fun z k => toldL kd nu gl rn vs nv z k) 4 (dgT gl rn (dgN (fun k => countL SA rn vs n nv d k) 1459 7) 12) n) i → sx = sa ∨ sx = SA → f124 sy = eI g 8 sx → Fr f f124 [sy] → PP g L f124 H → va_S (AA L s.heap.size) s.heap H locs → ∀ (ls : Array Slot), lv_has ls 5 [(3, .int (nI i)), (1, .long acc5), (0, .ref lo)] → W p l e ({ frames := 8, cells := 260, slots := 1560, locals := 135 } : Room) s m args below meth c H locs (71 + 30 * i) (6 * (71 + 30 * i)) Q (F0 m 124 ls []) := by
                      intro n124
                      induction n124 with
                      | zero => intros; omega
                      | succ n124 ih124 =>
                        intro i acc5 sx f124 H locs hm124 hi ha hsx hq124_0 hFr hP hS ls hl
                        have hf_lo : f124 lo = eO 5 [.ref we, .ref al, .ref rv, .int (nI d), .ref sy, .ref rt] := hFr.get h0f_lo (nm_c n_lo_sy (List.not_mem_nil))
                        have hf_al : f124 al = eO 0 [.int mo, .ref ed, .int (nI n)] := hFr.get h0f_al (nm_c n_al_sy (List.not_mem_nil))
                        have hf_we : f124 we = eO 4 [.ref ga, .ref ra] := hFr.get h0f_we (nm_c n_we_sy (List.not_mem_nil))
                        have hf_ga : f124 ga = eI g 12 gl := hFr.get h0f_ga (nm_c n_ga_sy (List.not_mem_nil))
                        have hf_ra : f124 ra = eZ g 12 rn := hFr.get h0f_ra (nm_c n_ra_sy (List.not_mem_nil))
                        have hf_rv : f124 rv = eO 3 [.ref pa, .int (nI nv)] := hFr.get h0f_rv (nm_c n_sy_rv.symm (List.not_mem_nil))
                        have hf_pa : f124 pa = eV g 6 pl := hFr.get h0f_pa (nm_c n_sy_pa.symm (List.not_mem_nil))
                        have hf_sy : f124 sy = eI g 8 sx := hq124_0
                        have hSg : Sgs g L f124 n ed so el kd nu := h0_hSg.frI hFr h0f_sy
                        have hV : Vils g L f124 6 ad aw vs := h0_hV.fr1 hFr off_sy
                        refine lv_iload_n hx hb dX4_digest_124 rfl (lv_at hl 0 rfl) ?_
                        refine lv_aload_n hx hb dX4_digest_125 rfl (lv_at hl 2 rfl) ?_
                        refine pg_get (C := RX4) (T := TX4) (N := 6) hx hb hts hi_X4 hown hK hP hL_lo hf_lo rfl 2 (by decide) (hts (.fieldLink RX4 28 "BarometerLeague" "villages" "LBarometerLeague$VillageRow;") (by decide +kernel)) (fun _ h9 => h9) rfl dX4_digest_126 ?_
                        refine ro_V (As := []) (rest := [.int (nI i)]) ⟨hx, hb, hml, hown, hts⟩ (m_X2_size l g L f124 _ _ _ hL_rv hf_rv) (cwV 0 hts gX4_digest_X2_size rfl rfl rfl (by decide +kernel) ⟨Nat.le_of_ble_eq_true rfl, Nat.le_of_ble_eq_true rfl⟩) hK hP hL_rv hf_rv rfl rfl hl.1 rfl (Nat.le_of_ble_eq_true rfl) dX4_digest_129 ⟨(by show 71 + 30 * i ≤ 260; omega), (by show 6 * (71 + 30 * i) ≤ 1560; omega)⟩ (fun r129 hr129 => ?_)
                        have hr129 : r129 = nI nv := hr129
                        subst hr129
                        refine lv_icmp_ge (tgt := 202) hx hb dX4_digest_132 (by decide) (fun c132 => ?_) (fun c132 => ?_)
                        · skip
                          have c132 : nv ≤ i := (nI_leI (a := nv) (b := i) (by omega) (by omega)).mp (show nI nv ≤ nI i from c132)
                          refine lv_lload_n hx hb dX4_digest_202 rfl (lv_at hl 1 rfl) ?_
                          exact hend (acc5) f124 _ _ _ _ _ _ (⟨by rw [ha, show i = nv from (by omega), hSA]; rfl, ⟨_, by rw [← hSA]; exact hsx, hf_sy⟩, hFr⟩) hP hS (by show 71 + 30 * i ≤ 260; omega) (by show 6 * (71 + 30 * i) ≤ 1560; omega) dX4_digest_203
                        · skip
                          have c132 : ¬ nv ≤ i := fun h => c132 ((nI_leI (a := nv) (b := i) (by omega) (by omega)).mpr h)
                          refine lv_iconst (v := 0) hx hb dX4_digest_135 (by decide) ?_
                          refine lv_istore (lv' := [(4, .int 0), (3, .int (nI i)), (1, .long acc5), (0, .ref lo)]) hx hb dX4_digest_136 hl (by decide) rfl (fun ls hl => ?_)
                          have K138 : ∀ (n138 : Nat) (j : Nat) (acc6 : Int64) (sx : Nat → Int32) (f138 : Nat → va_E) (H : Heap) (locs : List Loc), 8 - j < n138 → j ≤ 7 → acc6 = dgN ((fun v k => aboutL SA vs n nv v k) i) (dgV (fun v k => aboutL SA vs n nv v k) (fun v k => (vs v).2.2.2.2 k) n (dgS (fun z k => toldL kd nu gl rn vs nv z k) 4 (dgT gl rn (dgN (fun k => countL SA rn vs n nv d k) 1459 7) 12) n) i) j → sx = sa ∨ sx = SA → f138 sy = eI g 8 sx → Fr f f138 [sy] → PP g L f138 H → va_S (AA L s.heap.size) s.heap H locs → ∀ (ls : Array Slot), lv_has ls 5 [(4, .int (nI j)), (3, .int (nI i)), (1, .long acc6), (0, .ref lo)] → W p l e ({ frames := 8, cells := 260, slots := 1560, locals := 135 } : Room) s m args below meth c H locs (71 + 30 * i + 2 * j) (6 * (71 + 30 * i + 2 * j)) Q (F0 m 138 ls []) := by
                            intro n138
                            induction n138 with
                            | zero => intros; omega
                            | succ n138 ih138 =>
                              intro j acc6 sx f138 H locs hm138 hj ha2 hsx hq138_0 hFr hP hS ls hl
                              have hf_lo : f138 lo = eO 5 [.ref we, .ref al, .ref rv, .int (nI d), .ref sy, .ref rt] := hFr.get h0f_lo (nm_c n_lo_sy (List.not_mem_nil))
                              have hf_al : f138 al = eO 0 [.int mo, .ref ed, .int (nI n)] := hFr.get h0f_al (nm_c n_al_sy (List.not_mem_nil))
                              have hf_we : f138 we = eO 4 [.ref ga, .ref ra] := hFr.get h0f_we (nm_c n_we_sy (List.not_mem_nil))
                              have hf_ga : f138 ga = eI g 12 gl := hFr.get h0f_ga (nm_c n_ga_sy (List.not_mem_nil))
                              have hf_ra : f138 ra = eZ g 12 rn := hFr.get h0f_ra (nm_c n_ra_sy (List.not_mem_nil))
                              have hf_rv : f138 rv = eO 3 [.ref pa, .int (nI nv)] := hFr.get h0f_rv (nm_c n_sy_rv.symm (List.not_mem_nil))
                              have hf_pa : f138 pa = eV g 6 pl := hFr.get h0f_pa (nm_c n_sy_pa.symm (List.not_mem_nil))
                              have hf_sy : f138 sy = eI g 8 sx := hq138_0
                              have hSg : Sgs g L f138 n ed so el kd nu := h0_hSg.frI hFr h0f_sy
                              have hV : Vils g L f138 6 ad aw vs := h0_hV.fr1 hFr off_sy
                              refine lv_iload hx hb dX4_digest_138 (lv_at hl 0 rfl) ?_
                              refine lv_bipush (v := 6) hx hb dX4_digest_140 (by decide) ?_
                              refine lv_icmp_gt (tgt := 163) hx hb dX4_digest_142 (by decide) (fun c142 => ?_) (fun c142 => ?_)
                              · skip
                                have c142 : 6 < j := (nI_ltI (a := 6) (b := j) (by omega) (by omega)).mp (show nI 6 < nI j from c142)
                                obtain rfl : j = 7 := by omega
                                refine lv_iconst (v := 0) hx hb dX4_digest_163 (by decide) ?_
                                refine lv_istore (lv' := [(4, .int 0), (3, .int (nI i)), (1, .long acc6), (0, .ref lo)]) hx hb dX4_digest_164 hl (by decide) rfl (fun ls hl => ?_)
                                have K166 : ∀ (n166 : Nat) (j : Nat) (acc7 : Int64) (H : Heap) (locs : List Loc), n + 1 - j < n166 → j ≤ n → acc7 = dgN ((fun v k => (vs v).2.2.2.2 k) i) (dgN ((fun v k => aboutL SA vs n nv v k) i) (dgV (fun v k => aboutL SA vs n nv v k) (fun v k => (vs v).2.2.2.2 k) n (dgS (fun z k => toldL kd nu gl rn vs nv z k) 4 (dgT gl rn (dgN (fun k => countL SA rn vs n nv d k) 1459 7) 12) n) i) 7) j → PP g L f138 H → va_S (AA L s.heap.size) s.heap H locs → ∀ (ls : Array Slot), lv_has ls 5 [(4, .int (nI j)), (3, .int (nI i)), (1, .long acc7), (0, .ref lo)] → W p l e ({ frames := 8, cells := 260, slots := 1560, locals := 135 } : Room) s m args below meth c H locs (71 + 30 * i + 14 + 2 * j) (6 * (71 + 30 * i + 14 + 2 * j)) Q (F0 m 166 ls []) := by
                                  intro n166
                                  induction n166 with
                                  | zero => intros; omega
                                  | succ n166 ih166 =>
                                    intro j acc7 H locs hm166 hj ha3 hP hS ls hl
                                    refine lv_iload hx hb dX4_digest_166 (lv_at hl 0 rfl) ?_
                                    refine lv_aload_n hx hb dX4_digest_168 rfl (lv_at hl 3 rfl) ?_
                                    refine pg_get (C := RX4) (T := TX4) (N := 6) hx hb hts hi_X4 hown hK hP hL_lo hf_lo rfl 1 (by decide) (hts (.fieldLink RX4 19 "BarometerLeague" "signs" "Ljava/util/ArrayList;") (by decide +kernel)) (fun _ h9 => h9) rfl dX4_digest_169 ?_
                                    refine ro_V (As := []) (rest := [.int (nI j)]) ⟨hx, hb, hml, hown, hts⟩ (m_Jx4a65c_size_8abf5 l g L f138 _ _ _ _ hL_al hf_al) (cwV 0 hts gX4_digest_Jx4a65c_size_8abf5 rfl rfl rfl (by decide +kernel) ⟨Nat.le_of_ble_eq_true rfl, Nat.le_of_ble_eq_true rfl⟩) hK hP hL_al hf_al rfl rfl hl.1 rfl (Nat.le_of_ble_eq_true rfl) dX4_digest_172 ⟨(by show 71 + 30 * i + 14 + 2 * j ≤ 260; omega), (by show 6 * (71 + 30 * i + 14 + 2 * j) ≤ 1560; omega)⟩ (fun r172 hr172 => ?_)
                                    have hr172 : r172 = nI n := hr172
                                    subst hr172
                                    refine lv_icmp_ge (tgt := 196) hx hb dX4_digest_175 (by decide) (fun c175 => ?_) (fun c175 => ?_)
                                    · skip
                                      have c175 : n ≤ j := (nI_leI (a := n) (b := j) (by omega) (by omega)).mp (show nI n ≤ nI j from c175)
                                      refine lv_iinc (v := nI (i + 1)) (lv' := [(3, .int (nI (i + 1))), (4, .int (nI j)), (1, .long acc7), (0, .ref lo)]) hx hb dX4_digest_196 hl (k := 1) rfl (nI_1 _) (by decide) rfl (fun ls hl => ?_)
                                      refine lv_goto (tgt := 124) hx hb dX4_digest_199 (by decide) ?_
                                      refine W.widen (k := 71 + 30 * (i + 1)) (n := 6 * (71 + 30 * (i + 1))) (by omega) (by omega) ?_
                                      exact ih124 (i + 1) acc7 sx f138 H locs (by omega) (by omega) (by rw [ha3, show j = n from (by omega)]; rfl) (hsx) hf_sy hFr hP hS ls (lv_sub hl [0, 2, 3] rfl)
                                    · skip
                                      have c175 : ¬ n ≤ j := fun h => c175 ((nI_leI (a := n) (b := j) (by omega) (by omega)).mpr h)
                                      refine lv_lload_n hx hb dX4_digest_178 rfl (lv_at hl 2 rfl) ?_
                                      refine lv_aload_n hx hb dX4_digest_179 rfl (lv_at hl 3 rfl) ?_
                                      refine lv_iload_n hx hb dX4_digest_180 rfl (lv_at hl 1 rfl) ?_
                                      refine lv_iload hx hb dX4_digest_181 (lv_at hl 0 rfl) ?_
                                      refine tw_V (As := [.int (nI i), .int (nI j)]) (rest := [.long acc7]) ⟨hx, hb, hml, hown, hts⟩ (m_X4_weight l hst g L f138 _ hN _ _ _ _ _ _ _ _ _ _ _ _ _ _ _ _ _ _ hL_lo hf_lo hL_al hf_al hL_rv hf_rv hL_pa hf_pa hn hnv hpl hV) (cwV 2 hts gX4_digest_X4_weight rfl rfl rfl (by decide +kernel) ⟨Nat.le_of_ble_eq_true rfl, Nat.le_of_ble_eq_true rfl⟩) hK hZ hP hS hL_lo hf_lo rfl rfl hl.1 rfl (Nat.le_of_ble_eq_true rfl) dX4_digest_183 ⟨(by show 71 + 30 * i + 14 + 2 * j + 2 ≤ 260; omega), (by show 6 * (71 + 30 * i + 14 + 2 * j + 2) ≤ 1560; omega)⟩ (fun E ce q9 H locs hxc _ _ _ _ _ => by exfalso; exact absurd (hxc.2.symm.trans (show (inB (nI i) nv && inB (nI j) n) = true by rw [inB_nI (by omega) (by omega), inB_nI (by omega) (by omega)]; rfl)) (by decide)) (fun r183 f183 H locs hr183 hP hS => ?_)
                                      obtain ⟨hr183, hq183⟩ := hr183
                                      rw [hq183] at hP
                                      obtain ⟨u2, k2, hu2, huu, hk2, hkk, hv183⟩ := hr183
                                      obtain rfl : i = u2 := (nI_eq (by omega) (by omega)).mp huu
                                      obtain rfl : j = k2 := (nI_eq (by omega) (by omega)).mp hkk
                                      refine rl_S (As := [.long acc7, .int r183]) (rest := []) ⟨hx, hb, hml, hown, hts⟩ (m_X4_digestWith l g L f138 _ _ ) (va_cwS 2 hts gX4_digest_X4_digestWith rfl rfl rfl (by decide +kernel) ⟨Nat.le_of_ble_eq_true rfl, Nat.le_of_ble_eq_true rfl⟩) hK hP rfl hl.1 rfl (Nat.le_of_ble_eq_true rfl) dX4_digest_186 ⟨(by show 71 + 30 * i + 14 + 2 * j + 2 ≤ 260; omega), (by show 6 * (71 + 30 * i + 14 + 2 * j + 2) ≤ 1560; omega)⟩ (fun r186 hr186 => ?_)
                                      subst hr186
                                      refine lv_lstore_n (lv' := [(1, .long (dW acc7 r183)), (4, .int (nI j)), (3, .int (nI i)), (0, .ref lo)]) hx hb dX4_digest_189 rfl hl (by decide) rfl (fun ls hl => ?_)
                                      refine lv_iinc (v := nI (j + 1)) (lv' := [(4, .int (nI (j + 1))), (1, .long (dW acc7 r183)), (3, .int (nI i)), (0, .ref lo)]) hx hb dX4_digest_190 hl (k := 1) rfl (nI_1 _) (by decide) rfl (fun ls hl => ?_)
                                      refine lv_goto (tgt := 166) hx hb dX4_digest_193 (by decide) ?_
                                      refine W.widen (k := 71 + 30 * i + 14 + 2 * (j + 1)) (n := 6 * (71 + 30 * i + 14 + 2 * (j + 1))) (by omega) (by omega) ?_
                                      exact ih166 (j + 1) (dW acc7 r183) H locs (by omega) (by omega) (by rw [ha3, hv183]; rfl) hP hS ls (lv_sub hl [0, 2, 1, 3] rfl)
                                refine W.widen (k := 71 + 30 * i + 14 + 2 * 0) (n := 6 * (71 + 30 * i + 14 + 2 * 0)) (by omega) (by omega) ?_
                                exact K166 _ 0 acc6 _ _ (Nat.lt_succ_self _) (by omega) (ha2) hP hS ls (lv_sub hl [0, 1, 2, 3] rfl)
                              · skip
                                have c142 : ¬ 6 < j := fun h => c142 ((nI_ltI (a := 6) (b := j) (by omega) (by omega)).mpr h)
                                refine lv_lload_n hx hb dX4_digest_145 rfl (lv_at hl 2 rfl) ?_
                                refine lv_aload_n hx hb dX4_digest_146 rfl (lv_at hl 3 rfl) ?_
                                refine lv_iload_n hx hb dX4_digest_147 rfl (lv_at hl 1 rfl) ?_
                                refine lv_iload hx hb dX4_digest_148 (lv_at hl 0 rfl) ?_
                                refine tw_V (As := [.int (nI i), .int (nI j)]) (rest := [.long acc6]) ⟨hx, hb, hml, hown, hts⟩ (m_X4_about l hst g L f138 _ hN _ _ _ _ _ _ _ _ _ _ _ _ _ _ _ _ _ _ _ _ _ _ _ _ _ _ _ hL_lo hf_lo hL_al hf_al hL_we hf_we hL_ga hf_ga hL_ra hf_ra hL_sy hf_sy hL_rv hf_rv hL_pa hf_pa hn hrn hSg hnv hpl hV hd hsy) (cwV 2 hts gX4_digest_X4_about rfl rfl rfl (by decide +kernel) ⟨Nat.le_of_ble_eq_true rfl, Nat.le_of_ble_eq_true rfl⟩) hK hZ hP hS hL_lo hf_lo rfl rfl hl.1 rfl (Nat.le_of_ble_eq_true rfl) dX4_digest_150 ⟨(by show 71 + 30 * i + 2 * j + 2 ≤ 260; omega), (by show 6 * (71 + 30 * i + 2 * j + 2) ≤ 1560; omega)⟩ (fun E ce q9 H locs hxc _ _ _ _ _ => by exfalso; exact absurd (hxc.2.symm.trans (show (inB (nI i) nv && inB (nI j) 7) = true by rw [inB_nI (by omega) (by omega), inB_nI (by omega) (by omega)]; rfl)) (by decide)) (fun r150 f150 H locs hr150 hP hS => ?_)
                                obtain ⟨u2, k2, hu2, huu, hk2, hkk, hv150, hf_sy, hw150⟩ := hr150
                                obtain rfl : i = u2 := (nI_eq (by omega) (by omega)).mp huu
                                obtain rfl : j = k2 := (nI_eq (by omega) (by omega)).mp hkk
                                rw [sa_fix hsx hSA] at hv150
                                replace hFr : Fr f f150 [sy] := hFr.tr hw150 (by simp)
                                have hf_lo : f150 lo = eO 5 [.ref we, .ref al, .ref rv, .int (nI d), .ref sy, .ref rt] := hFr.get h0f_lo (nm_c n_lo_sy (List.not_mem_nil))
                                have hf_al : f150 al = eO 0 [.int mo, .ref ed, .int (nI n)] := hFr.get h0f_al (nm_c n_al_sy (List.not_mem_nil))
                                have hf_we : f150 we = eO 4 [.ref ga, .ref ra] := hFr.get h0f_we (nm_c n_we_sy (List.not_mem_nil))
                                have hf_ga : f150 ga = eI g 12 gl := hFr.get h0f_ga (nm_c n_ga_sy (List.not_mem_nil))
                                have hf_ra : f150 ra = eZ g 12 rn := hFr.get h0f_ra (nm_c n_ra_sy (List.not_mem_nil))
                                have hf_rv : f150 rv = eO 3 [.ref pa, .int (nI nv)] := hFr.get h0f_rv (nm_c n_sy_rv.symm (List.not_mem_nil))
                                have hf_pa : f150 pa = eV g 6 pl := hFr.get h0f_pa (nm_c n_sy_pa.symm (List.not_mem_nil))
                                have hSg : Sgs g L f150 n ed so el kd nu := h0_hSg.frI hFr h0f_sy
                                have hV : Vils g L f150 6 ad aw vs := h0_hV.fr1 hFr off_sy
                                obtain ⟨sx150, hsx150, hf_sy⟩ : ∃ z, (z = sa ∨ z = SA) ∧ f150 sy = eI g 8 z := ⟨_, sa_or hsx hSA _, hf_sy⟩
                                have hsx := hsx150
                                refine rl_S (As := [.long acc6, .int r150]) (rest := []) ⟨hx, hb, hml, hown, hts⟩ (m_X4_digestWith l g L f150 _ _ ) (va_cwS 2 hts gX4_digest_X4_digestWith rfl rfl rfl (by decide +kernel) ⟨Nat.le_of_ble_eq_true rfl, Nat.le_of_ble_eq_true rfl⟩) hK hP rfl hl.1 rfl (Nat.le_of_ble_eq_true rfl) dX4_digest_153 ⟨(by show 71 + 30 * i + 2 * j + 2 ≤ 260; omega), (by show 6 * (71 + 30 * i + 2 * j + 2) ≤ 1560; omega)⟩ (fun r153 hr153 => ?_)
                                subst hr153
                                refine lv_lstore_n (lv' := [(1, .long (dW acc6 r150)), (4, .int (nI j)), (3, .int (nI i)), (0, .ref lo)]) hx hb dX4_digest_156 rfl hl (by decide) rfl (fun ls hl => ?_)
                                refine lv_iinc (v := nI (j + 1)) (lv' := [(4, .int (nI (j + 1))), (1, .long (dW acc6 r150)), (3, .int (nI i)), (0, .ref lo)]) hx hb dX4_digest_157 hl (k := 1) rfl (nI_1 _) (by decide) rfl (fun ls hl => ?_)
                                refine lv_goto (tgt := 138) hx hb dX4_digest_160 (by decide) ?_
                                refine W.widen (k := 71 + 30 * i + 2 * (j + 1)) (n := 6 * (71 + 30 * i + 2 * (j + 1))) (by omega) (by omega) ?_
                                exact ih138 (j + 1) (dW acc6 r150) sx150 f150 H locs (by omega) (by omega) (by rw [ha2, hv150]; rfl) (hsx) hf_sy hFr hP hS ls (lv_sub hl [0, 2, 1, 3] rfl)
                          refine W.widen (k := 71 + 30 * i + 2 * 0) (n := 6 * (71 + 30 * i + 2 * 0)) (by omega) (by omega) ?_
                          exact K138 _ 0 acc5 sx f124 _ _ (Nat.lt_succ_self _) (by omega) (ha) (hsx) hf_sy hFr hP hS ls (lv_sub hl [0, 1, 2, 3] rfl)
                    refine W.widen (k := 71 + 30 * 0) (n := 6 * (71 + 30 * 0)) (by omega) (by omega) ?_
                    exact K124 _ 0 acc3 sx f6 _ _ (Nat.lt_succ_self _) (by omega) (ha) (hsx) hf_sy hFr hP hS ls (lv_sub hl [0, 1, 2] rfl)
                  · skip
                    have c86 : ¬ n ≤ i := fun h => c86 ((nI_leI (a := n) (b := i) (by omega) (by omega)).mpr h)
                    refine lv_iconst (v := 0) hx hb dX4_digest_89 (by decide) ?_
                    refine lv_istore (lv' := [(4, .int 0), (3, .int (nI i)), (1, .long acc3), (0, .ref lo)]) hx hb dX4_digest_90 hl (by decide) rfl (fun ls hl => ?_)
                    have K92 : ∀ (n92 : Nat) (j : Nat) (acc4 : Int64) (H : Heap) (locs : List Loc), 5 - j < n92 → j ≤ 4 → acc4 = dgN ((fun z k => toldL kd nu gl rn vs nv z k) i) (dgS (fun z k => toldL kd nu gl rn vs nv z k) 4 (dgT gl rn (dgN (fun k => countL SA rn vs n nv d k) 1459 7) 12) i) j → PP g L f6 H → va_S (AA L s.heap.size) s.heap H locs → ∀ (ls : Array Slot), lv_has ls 5 [(4, .int (nI j)), (3, .int (nI i)), (1, .long acc4), (0, .ref lo)] → W p l e ({ frames := 8, cells := 260, slots := 1560, locals := 135 } : Room) s m args below meth c H locs (7 + 8 * i + 2 * j) (6 * (7 + 8 * i + 2 * j)) Q (F0 m 92 ls []) := by
                      intro n92
                      induction n92 with
                      | zero => intros; omega
                      | succ n92 ih92 =>
                        intro j acc4 H locs hm92 hj ha2 hP hS ls hl
                        refine lv_iload hx hb dX4_digest_92 (lv_at hl 0 rfl) ?_
                        refine lv_iconst (v := 3) hx hb dX4_digest_94 (by decide) ?_
                        refine lv_icmp_gt (tgt := 116) hx hb dX4_digest_95 (by decide) (fun c95 => ?_) (fun c95 => ?_)
                        · skip
                          have c95 : 3 < j := (nI_ltI (a := 3) (b := j) (by omega) (by omega)).mp (show nI 3 < nI j from c95)
                          refine lv_iinc (v := nI (i + 1)) (lv' := [(3, .int (nI (i + 1))), (4, .int (nI j)), (1, .long acc4), (0, .ref lo)]) hx hb dX4_digest_116 hl (k := 1) rfl (nI_1 _) (by decide) rfl (fun ls hl => ?_)
                          refine lv_goto (tgt := 78) hx hb dX4_digest_119 (by decide) ?_
                          refine W.widen (k := 7 + 8 * (i + 1)) (n := 6 * (7 + 8 * (i + 1))) (by omega) (by omega) ?_
                          exact ih78 (i + 1) acc4 H locs (by omega) (by omega) (by rw [ha2, show j = 4 from (by omega)]; rfl) hP hS ls (lv_sub hl [0, 2, 3] rfl)
                        · skip
                          have c95 : ¬ 3 < j := fun h => c95 ((nI_ltI (a := 3) (b := j) (by omega) (by omega)).mpr h)
                          refine lv_lload_n hx hb dX4_digest_98 rfl (lv_at hl 2 rfl) ?_
                          refine lv_aload_n hx hb dX4_digest_99 rfl (lv_at hl 3 rfl) ?_
                          refine lv_iload_n hx hb dX4_digest_100 rfl (lv_at hl 1 rfl) ?_
                          refine lv_iload hx hb dX4_digest_101 (lv_at hl 0 rfl) ?_
                          refine tw_V (As := [.int (nI i), .int (nI j)]) (rest := [.long acc4]) ⟨hx, hb, hml, hown, hts⟩ (m_X4_told l hst g L f6 _ hN _ _ _ _ _ _ _ _ _ _ _ _ _ _ _ _ _ _ _ _ _ _ _ _ _ _ _ hL_lo hf_lo hL_al hf_al hL_we hf_we hL_ga hf_ga hL_ra hf_ra hL_sy hf_sy hL_rv hf_rv hL_pa hf_pa hn hrn hSg hnv hpl hV) (cwV 2 hts gX4_digest_X4_told rfl rfl rfl (by decide +kernel) ⟨Nat.le_of_ble_eq_true rfl, Nat.le_of_ble_eq_true rfl⟩) hK hZ hP hS hL_lo hf_lo rfl rfl hl.1 rfl (Nat.le_of_ble_eq_true rfl) dX4_digest_103 ⟨(by show 7 + 8 * i + 2 * j + 2 ≤ 260; omega), (by show 6 * (7 + 8 * i + 2 * j + 2) ≤ 1560; omega)⟩ (fun E ce q9 H locs hxc _ _ _ _ _ => by exfalso; exact absurd (hxc.2.symm.trans (show (inB (nI i) n && inB (nI j) 4) = true by rw [inB_nI (by omega) (by omega), inB_nI (by omega) (by omega)]; rfl)) (by decide)) (fun r103 f103 H locs hr103 hP hS => ?_)
                          obtain ⟨hr103, hq103⟩ := hr103
                          rw [hq103] at hP
                          obtain ⟨j2, k2, hj2, hjj, hk2, hkk, hv103⟩ := hr103
                          obtain rfl : i = j2 := (nI_eq (by omega) (by omega)).mp hjj
                          obtain rfl : j = k2 := (nI_eq (by omega) (by omega)).mp hkk
                          refine rl_S (As := [.long acc4, .int r103]) (rest := []) ⟨hx, hb, hml, hown, hts⟩ (m_X4_digestWith l g L f6 _ _ ) (va_cwS 2 hts gX4_digest_X4_digestWith rfl rfl rfl (by decide +kernel) ⟨Nat.le_of_ble_eq_true rfl, Nat.le_of_ble_eq_true rfl⟩) hK hP rfl hl.1 rfl (Nat.le_of_ble_eq_true rfl) dX4_digest_106 ⟨(by show 7 + 8 * i + 2 * j + 2 ≤ 260; omega), (by show 6 * (7 + 8 * i + 2 * j + 2) ≤ 1560; omega)⟩ (fun r106 hr106 => ?_)
                          subst hr106
                          refine lv_lstore_n (lv' := [(1, .long (dW acc4 r103)), (4, .int (nI j)), (3, .int (nI i)), (0, .ref lo)]) hx hb dX4_digest_109 rfl hl (by decide) rfl (fun ls hl => ?_)
                          refine lv_iinc (v := nI (j + 1)) (lv' := [(4, .int (nI (j + 1))), (1, .long (dW acc4 r103)), (3, .int (nI i)), (0, .ref lo)]) hx hb dX4_digest_110 hl (k := 1) rfl (nI_1 _) (by decide) rfl (fun ls hl => ?_)
                          refine lv_goto (tgt := 92) hx hb dX4_digest_113 (by decide) ?_
                          refine W.widen (k := 7 + 8 * i + 2 * (j + 1)) (n := 6 * (7 + 8 * i + 2 * (j + 1))) (by omega) (by omega) ?_
                          exact ih92 (j + 1) (dW acc4 r103) H locs (by omega) (by omega) (by rw [ha2, hv103]; rfl) hP hS ls (lv_sub hl [0, 2, 1, 3] rfl)
                    refine W.widen (k := 7 + 8 * i + 2 * 0) (n := 6 * (7 + 8 * i + 2 * 0)) (by omega) (by omega) ?_
                    exact K92 _ 0 acc3 _ _ (Nat.lt_succ_self _) (by omega) (ha) hP hS ls (lv_sub hl [0, 1, 2, 3] rfl)
              refine W.widen (k := 7 + 8 * 0) (n := 6 * (7 + 8 * 0)) (by omega) (by omega) ?_
              exact K78 _ 0 acc2 _ _ (Nat.lt_succ_self _) (by omega) (ha) hP hS ls (lv_sub hl [0, 1, 2] rfl)
            · skip
              have c33 : ¬ 12 ≤ i := fun h => c33 ((nI_leI (a := 12) (b := i) (by omega) (by omega)).mpr h)
              refine lv_lload_n hx hb dX4_digest_36 rfl (lv_at hl 1 rfl) ?_
              refine lv_aload_n hx hb dX4_digest_37 rfl (lv_at hl 2 rfl) ?_
              refine pg_get (C := RX4) (T := TX4) (N := 6) hx hb hts hi_X4 hown hK hP hL_lo hf_lo rfl 0 (by decide) (hts (.fieldLink RX4 10 "BarometerLeague" "weather" "LBarometerLeague$Weather;") (by decide +kernel)) (fun _ h9 => h9) rfl dX4_digest_38 ?_
              refine lv_iload_n hx hb dX4_digest_41 rfl (lv_at hl 0 rfl) ?_
              refine ro_V (As := [.int (nI i)]) (rest := [.long acc2]) ⟨hx, hb, hml, hown, hts⟩ (m_X3_glassOn l g L f6 _ _ _ _ _ _ i hL_we hf_we hL_ga hf_ga hL_ra hf_ra (dIx_t (show i < 12 by omega))) (cwV 1 hts gX4_digest_X3_glassOn rfl rfl rfl (by decide +kernel) ⟨Nat.le_of_ble_eq_true rfl, Nat.le_of_ble_eq_true rfl⟩) hK hP hL_we hf_we rfl rfl hl.1 rfl (Nat.le_of_ble_eq_true rfl) dX4_digest_42 ⟨(by show 7 ≤ 260; omega), (by show 6 * (7) ≤ 1560; omega)⟩ (fun r42 hr42 => ?_)
              have hr42 : r42 = gl i := hr42
              subst hr42
              refine rl_S (As := [.long acc2, .int (gl i)]) (rest := []) ⟨hx, hb, hml, hown, hts⟩ (m_X4_digestWith l g L f6 _ _ ) (va_cwS 2 hts gX4_digest_X4_digestWith rfl rfl rfl (by decide +kernel) ⟨Nat.le_of_ble_eq_true rfl, Nat.le_of_ble_eq_true rfl⟩) hK hP rfl hl.1 rfl (Nat.le_of_ble_eq_true rfl) dX4_digest_45 ⟨(by show 7 ≤ 260; omega), (by show 6 * (7) ≤ 1560; omega)⟩ (fun r45 hr45 => ?_)
              subst hr45
              refine lv_lstore_n (lv' := [(1, .long (dW acc2 (gl i))), (3, .int (nI i)), (0, .ref lo)]) hx hb dX4_digest_48 rfl hl (by decide) rfl (fun ls hl => ?_)
              refine lv_lload_n hx hb dX4_digest_49 rfl (lv_at hl 0 rfl) ?_
              refine lv_aload_n hx hb dX4_digest_50 rfl (lv_at hl 2 rfl) ?_
              refine pg_get (C := RX4) (T := TX4) (N := 6) hx hb hts hi_X4 hown hK hP hL_lo hf_lo rfl 0 (by decide) (hts (.fieldLink RX4 10 "BarometerLeague" "weather" "LBarometerLeague$Weather;") (by decide +kernel)) (fun _ h9 => h9) rfl dX4_digest_51 ?_
              refine lv_iload_n hx hb dX4_digest_54 rfl (lv_at hl 1 rfl) ?_
              refine ro_V (As := [.int (nI i)]) (rest := [.long (dW acc2 (gl i))]) ⟨hx, hb, hml, hown, hts⟩ (m_X3_rainsOn l g L f6 _ _ _ _ _ _ i hL_we hf_we hL_ga hf_ga hL_ra hf_ra (dIx_t (show i < 12 by omega)) hrn) (cwV 1 hts gX4_digest_X3_rainsOn rfl rfl rfl (by decide +kernel) ⟨Nat.le_of_ble_eq_true rfl, Nat.le_of_ble_eq_true rfl⟩) hK hP hL_we hf_we rfl rfl hl.1 rfl (Nat.le_of_ble_eq_true rfl) dX4_digest_55 ⟨(by show 7 ≤ 260; omega), (by show 6 * (7) ≤ 1560; omega)⟩ (fun r55 hr55 => ?_)
              have hr55 : r55 = rn i := hr55
              subst hr55
              refine lv_if_eq (tgt := 65) hx hb dX4_digest_58 (by decide) (fun c58 => ?_) (fun c58 => ?_)
              · skip
                refine lv_iconst (v := 0) hx hb dX4_digest_65 (by decide) ?_
                refine rl_S (As := [.long (dW acc2 (gl i)), .int 0]) (rest := []) ⟨hx, hb, hml, hown, hts⟩ (m_X4_digestWith l g L f6 _ _ ) (va_cwS 2 hts gX4_digest_X4_digestWith rfl rfl rfl (by decide +kernel) ⟨Nat.le_of_ble_eq_true rfl, Nat.le_of_ble_eq_true rfl⟩) hK hP rfl hl.1 rfl (Nat.le_of_ble_eq_true rfl) dX4_digest_66 ⟨(by show 7 ≤ 260; omega), (by show 6 * (7) ≤ 1560; omega)⟩ (fun r66 hr66 => ?_)
                subst hr66
                refine lv_lstore_n (lv' := [(1, .long (dW (dW acc2 (gl i)) 0)), (3, .int (nI i)), (0, .ref lo)]) hx hb dX4_digest_69 rfl hl (by decide) rfl (fun ls hl => ?_)
                refine lv_iinc (v := nI (i + 1)) (lv' := [(3, .int (nI (i + 1))), (1, .long (dW (dW acc2 (gl i)) 0)), (0, .ref lo)]) hx hb dX4_digest_70 hl (k := 1) rfl (nI_1 _) (by decide) rfl (fun ls hl => ?_)
                refine lv_goto (tgt := 30) hx hb dX4_digest_73 (by decide) ?_
                refine W.widen (k := 7) (n := 6 * (7)) (by omega) (by omega) ?_
                exact ih30 (i + 1) (dW (dW acc2 (gl i)) 0) H locs (by omega) (by omega) (by rw [ha]; show _ = dW (dW _ (gl i)) (rn i); rw [show rn i = 0 from c58]) hP hS ls (lv_sub hl [0, 1, 2] rfl)
              · skip
                refine lv_iconst (v := 1) hx hb dX4_digest_61 (by decide) ?_
                refine lv_goto (tgt := 66) hx hb dX4_digest_62 (by decide) ?_
                refine rl_S (As := [.long (dW acc2 (gl i)), .int 1]) (rest := []) ⟨hx, hb, hml, hown, hts⟩ (m_X4_digestWith l g L f6 _ _ ) (va_cwS 2 hts gX4_digest_X4_digestWith rfl rfl rfl (by decide +kernel) ⟨Nat.le_of_ble_eq_true rfl, Nat.le_of_ble_eq_true rfl⟩) hK hP rfl hl.1 rfl (Nat.le_of_ble_eq_true rfl) dX4_digest_66 ⟨(by show 7 ≤ 260; omega), (by show 6 * (7) ≤ 1560; omega)⟩ (fun r66 hr66 => ?_)
                subst hr66
                refine lv_lstore_n (lv' := [(1, .long (dW (dW acc2 (gl i)) 1)), (3, .int (nI i)), (0, .ref lo)]) hx hb dX4_digest_69 rfl hl (by decide) rfl (fun ls hl => ?_)
                refine lv_iinc (v := nI (i + 1)) (lv' := [(3, .int (nI (i + 1))), (1, .long (dW (dW acc2 (gl i)) 1)), (0, .ref lo)]) hx hb dX4_digest_70 hl (k := 1) rfl (nI_1 _) (by decide) rfl (fun ls hl => ?_)
                refine lv_goto (tgt := 30) hx hb dX4_digest_73 (by decide) ?_
                refine W.widen (k := 7) (n := 6 * (7)) (by omega) (by omega) ?_
                exact ih30 (i + 1) (dW (dW acc2 (gl i)) 1) H locs (by omega) (by omega) (by rw [ha]; show _ = dW (dW _ (gl i)) (rn i); rw [show rn i = 1 from bool1 (hrn _ (by omega)) c58]) hP hS ls (lv_sub hl [0, 1, 2] rfl)
        refine W.widen (k := 7) (n := 6 * (7)) (by omega) (by omega) ?_
        exact K30 _ 0 acc _ _ (Nat.lt_succ_self _) (by omega) (ha) hP hS ls (lv_sub hl [0, 1, 2] rfl)
      · skip
        have c9 : ¬ 6 < i := fun h => c9 ((nI_ltI (a := 6) (b := i) (by omega) (by omega)).mpr h)
        refine lv_lload_n hx hb dX4_digest_12 rfl (lv_at hl 1 rfl) ?_
        refine lv_aload_n hx hb dX4_digest_13 rfl (lv_at hl 2 rfl) ?_
        refine lv_iload_n hx hb dX4_digest_14 rfl (lv_at hl 0 rfl) ?_
        refine tw_V (As := [.int (nI i)]) (rest := [.long acc]) ⟨hx, hb, hml, hown, hts⟩ (m_X4_count l hst g L f6 _ hN _ _ _ _ _ _ _ _ _ _ _ _ _ _ _ _ _ _ _ _ _ _ _ _ _ _ hL_lo hf_lo hL_al hf_al hL_we hf_we hL_ga hf_ga hL_ra hf_ra hL_sy hf_sy hL_rv hf_rv hL_pa hf_pa hn hrn hSg hnv hpl hV hD hd hsy) (cwV 1 hts gX4_digest_X4_count rfl rfl rfl (by decide +kernel) ⟨Nat.le_of_ble_eq_true rfl, Nat.le_of_ble_eq_true rfl⟩) hK hZ hP hS hL_lo hf_lo rfl rfl hl.1 rfl (Nat.le_of_ble_eq_true rfl) dX4_digest_15 ⟨(by show i + 1 ≤ 260; omega), (by show 6 * (i + 1) ≤ 1560; omega)⟩ (fun E ce q9 H locs hxc _ _ _ _ _ => by exfalso; exact absurd (hxc.2.symm.trans (inB_nI (by omega) (by omega))) (by decide)) (fun r15 f15 H locs hr15 hP hS => ?_)
        obtain ⟨k2, hk2, hkk, hv15, hf_sy, hw15⟩ := hr15
        obtain rfl : i = k2 := (nI_eq (by omega) (by omega)).mp hkk
        rw [sa_fix hsx hSA] at hv15
        replace hFr : Fr f f15 [sy] := hFr.tr hw15 (by simp)
        have hf_lo : f15 lo = eO 5 [.ref we, .ref al, .ref rv, .int (nI d), .ref sy, .ref rt] := hFr.get h0f_lo (nm_c n_lo_sy (List.not_mem_nil))
        have hf_al : f15 al = eO 0 [.int mo, .ref ed, .int (nI n)] := hFr.get h0f_al (nm_c n_al_sy (List.not_mem_nil))
        have hf_we : f15 we = eO 4 [.ref ga, .ref ra] := hFr.get h0f_we (nm_c n_we_sy (List.not_mem_nil))
        have hf_ga : f15 ga = eI g 12 gl := hFr.get h0f_ga (nm_c n_ga_sy (List.not_mem_nil))
        have hf_ra : f15 ra = eZ g 12 rn := hFr.get h0f_ra (nm_c n_ra_sy (List.not_mem_nil))
        have hf_rv : f15 rv = eO 3 [.ref pa, .int (nI nv)] := hFr.get h0f_rv (nm_c n_sy_rv.symm (List.not_mem_nil))
        have hf_pa : f15 pa = eV g 6 pl := hFr.get h0f_pa (nm_c n_sy_pa.symm (List.not_mem_nil))
        have hSg : Sgs g L f15 n ed so el kd nu := h0_hSg.frI hFr h0f_sy
        have hV : Vils g L f15 6 ad aw vs := h0_hV.fr1 hFr off_sy
        obtain ⟨sx15, hsx15, hf_sy⟩ : ∃ z, (z = sa ∨ z = SA) ∧ f15 sy = eI g 8 z := ⟨_, sa_or hsx hSA _, hf_sy⟩
        have hsx := hsx15
        refine rl_S (As := [.long acc, .int r15]) (rest := []) ⟨hx, hb, hml, hown, hts⟩ (m_X4_digestWith l g L f15 _ _ ) (va_cwS 2 hts gX4_digest_X4_digestWith rfl rfl rfl (by decide +kernel) ⟨Nat.le_of_ble_eq_true rfl, Nat.le_of_ble_eq_true rfl⟩) hK hP rfl hl.1 rfl (Nat.le_of_ble_eq_true rfl) dX4_digest_18 ⟨(by show i + 1 ≤ 260; omega), (by show 6 * (i + 1) ≤ 1560; omega)⟩ (fun r18 hr18 => ?_)
        subst hr18
        refine lv_lstore_n (lv' := [(1, .long (dW acc r15)), (3, .int (nI i)), (0, .ref lo)]) hx hb dX4_digest_21 rfl hl (by decide) rfl (fun ls hl => ?_)
        refine lv_iinc (v := nI (i + 1)) (lv' := [(3, .int (nI (i + 1))), (1, .long (dW acc r15)), (0, .ref lo)]) hx hb dX4_digest_22 hl (k := 1) rfl (nI_1 _) (by decide) rfl (fun ls hl => ?_)
        refine lv_goto (tgt := 6) hx hb dX4_digest_25 (by decide) ?_
        refine W.widen (k := i + 1) (n := 6 * (i + 1)) (by omega) (by omega) ?_
        exact ih6 (i + 1) (dW acc r15) sx15 f15 H locs (by omega) (by omega) (by rw [ha, hv15]; rfl) (hsx) hf_sy hFr hP hS ls (lv_sub hl [0, 1, 2] rfl)
  refine W.widen (k := 0) (n := 6 * (0)) (by omega) (by omega) ?_
  exact K6 _ 0 1459 sa f _ _ (Nat.lt_succ_self _) (by omega) (rfl) (Or.inl rfl) hf_sy hFr hP hS ls (lv_sub hl [0, 1, 2] rfl)
