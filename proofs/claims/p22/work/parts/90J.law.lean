/-! ===== the law, piece J ===== -/
set_option maxHeartbeats 8000000 in
set_option maxRecDepth 100000 in
theorem lw_J {p : Program} {l : Launch} {e : Env} {s : State} {m : MethodId} {args : Array Value} {below : List Frame} {meth : Method} {c : Code} {Q : State → Prop} {g : GG} {t lo : Nat} {L0 : List Nat} {b : SmA} {o : OB} {M cells slots : Nat} {H : Heap} {locs : List Loc} {ls : Array Slot} {Lw : List Nat} {fw : Nat → va_E} {q8 q9 bs : Nat} {fa fb : Nat → Nat} {x3 x4 : Int32} (C : LK p l s m args c cL_law 32 wsL_law RL g t L0) (hok : OkO M (dayO o)) (hM : M + 300 < 2 ^ 28) (hW : WD g t lo b (dayO o) (dayO o) Lw fw (AA L0 s.heap.size) s.heap H locs) (hl : lv_has ls 32 [(9, .ref q9), (8, .ref q8), (7, .int (nI o.nv)), (6, .int (nI o.n)), (5, .int (nI o.d)), (4, .int x4), (3, .int x3), (2, .ref b.sm), (1, .ref lo), (0, .ref bs)]) (T8 : TB g Lw fw q8 7 o.nv fa KA (aboutO o)) (T9 : TB g Lw fw q9 o.n o.nv fb KA (wtsO o)) (hD : ∀ u v, u < o.nv → v < o.nv → fa u ≠ fb v) (hok0 : OkO M o) (hc : cells + 250 ≤ 1200130) (hs : slots + 1500 ≤ 5501080) (kk : ∀ (H : Heap) (locs : List Loc) (ls : Array Slot), WD g t lo b (dayO o) (dayO o) Lw fw (AA L0 s.heap.size) s.heap H locs → lv_has ls 32 [(9, .ref q9), (8, .ref q8), (7, .int (nI o.nv)), (6, .int (nI o.n)), (5, .int (nI o.d)), (4, .int x4), (3, .int x3), (2, .ref b.sm), (1, .ref lo), (0, .ref bs)] → W p l e room_1 s m args below meth c H locs (cells + 250) (slots + 1500) Q (F0 m 1171 ls [])) : W p l e room_1 s m args below meth c H locs cells slots Q (F0 m 936 ls []) := by
  obtain ⟨hx, hb, hml, hts, hown, hK, hZ, hDS, hst⟩ := C
  have hi_X5 : ∀ w ∈ u_ws RX5 TX5 6, w ∈ wsL_law := by decide +kernel
  have hn := hok.hn
  have hnv := hok.hnv
  have hd := hok.hd
  have hn2 : (dayO o).n = o.n := rfl
  have hnv2 : (dayO o).nv = o.nv := rfl
  have hd2 : (dayO o).d = o.d + 1 := rfl
  refine lv_aload_n hx hb dL_law_936 rfl (lv_at hl 7 rfl) ?_
  obtain ⟨Ls9, fs9, hM9, hPs9⟩ := hW.sim
  refine pg_get (C := RX5) (T := TX5) (N := 6) hx hb hts hi_X5 hown hK hPs9 hM9.1 hM9.2.1 rfl 2 (by decide) (hts (.fieldLink RL 38 "BarometerLeagueLaw$Sim" "rain" "[Z") (by decide +kernel)) (fun _ h9 => h9) rfl dL_law_937 ?_
  refine lv_iload hx hb dL_law_940 (lv_at hl 4 rfl) ?_
  refine lv_bipush (v := 12) hx hb dL_law_942 (by decide) ?_
  refine lv_irem hx hb dL_law_944 (by decide) ?_
  refine lv_topi (fun v944 ev944 => ?_)
  obtain ⟨Ls9, fs9, hM9, hPs9⟩ := hW.sim
  refine pn_zald (h := (dayO o).rn) (j := o.d % 12) hx hb hK hPs9 hM9.L_sr hM9.f_sr (ev944.trans (pk_rem (a := o.d) (d := 12) (by omega) (by decide) (by decide))) (by omega) (by omega) dL_law_945 ?_
  rw [show (dayO o).rn (o.d % 12) = b2i (rbB o.rn o.d) from rb_eq (hok0.hrn _ (by omega))]
  refine lv_istore (lv' := [(24, .int (b2i (rbB o.rn o.d))), (9, .ref q9), (8, .ref q8), (7, .int (nI o.nv)), (6, .int (nI o.n)), (5, .int (nI o.d)), (4, .int x4), (3, .int x3), (2, .ref b.sm), (1, .ref lo), (0, .ref bs)]) hx hb dL_law_946 hl (by decide) rfl (fun ls hl => ?_)
  refine lv_iconst (v := 0) hx hb dL_law_948 (by decide) ?_
  refine lv_istore (lv' := [(25, .int 0), (24, .int (b2i (rbB o.rn o.d))), (9, .ref q9), (8, .ref q8), (7, .int (nI o.nv)), (6, .int (nI o.n)), (5, .int (nI o.d)), (4, .int x4), (3, .int x3), (2, .ref b.sm), (1, .ref lo), (0, .ref bs)]) hx hb dL_law_949 hl (by decide) rfl (fun ls hl => ?_)
  have K951 : ∀ (n951 : Nat) (v : Nat) (H : Heap) (locs : List Loc), o.nv - v < n951 → v ≤ o.nv → WD g t lo b (dayO o) (dayO o) Lw fw (AA L0 s.heap.size) s.heap H locs → ∀ (ls : Array Slot), lv_has ls 32 [(25, .int (nI v)), (24, .int (b2i (rbB o.rn o.d))), (9, .ref q9), (8, .ref q8), (7, .int (nI o.nv)), (6, .int (nI o.n)), (5, .int (nI o.d)), (4, .int x4), (3, .int x3), (2, .ref b.sm), (1, .ref lo), (0, .ref bs)] → W p l e room_1 s m args below meth c H locs (cells + 40 * v) (slots + 240 * v) Q (F0 m 951 ls []) := by
    intro n951
    induction n951 with
    | zero => intros; omega
    | succ n951 ih951 =>
      intro v H locs hm951 hv hW ls hl
      refine lv_iload hx hb dL_law_951 (lv_at hl 0 rfl) ?_
      refine lv_iload hx hb dL_law_953 (lv_at hl 4 rfl) ?_
      refine lv_icmp_ge (tgt := 1171) hx hb dL_law_955 (by decide) (fun c955 => ?_) (fun c955 => ?_)
      · skip
        have c955 : o.nv ≤ v := (nI_leI (a := o.nv) (b := v) (by omega) (by omega)).mp (show nI o.nv ≤ nI v from c955)
        exact W.widen (by omega) (by omega) (kk H locs ls (hW) (lv_sub hl [2, 3, 4, 5, 6, 7, 8, 9, 10, 11] rfl))
      · skip
        have c955 : ¬ o.nv ≤ v := fun h => c955 ((nI_leI (a := o.nv) (b := v) (by omega) (by omega)).mpr h)
        refine lv_aload hx hb dL_law_958 (lv_at hl 3 rfl) ?_
        refine lv_iload hx hb dL_law_960 (lv_at hl 0 rfl) ?_
        refine w_tref hx hb hK hW T8 (u := v) rfl (by omega) (by omega) dL_law_962 ?_
        refine lv_astore (lv' := [(26, .ref (fa v)), (25, .int (nI v)), (24, .int (b2i (rbB o.rn o.d))), (9, .ref q9), (8, .ref q8), (7, .int (nI o.nv)), (6, .int (nI o.n)), (5, .int (nI o.d)), (4, .int x4), (3, .int x3), (2, .ref b.sm), (1, .ref lo), (0, .ref bs)]) hx hb dL_law_963 hl (by decide) rfl (fun ls hl => ?_)
        refine lv_aload hx hb dL_law_965 (lv_at hl 0 rfl) ?_
        refine lv_iconst (v := 5) hx hb dL_law_967 (by decide) ?_
        refine w_tld hx hb hK hW T8 (u := v) (j := 5) (by omega) rfl (by omega) (by omega) trivial dL_law_968 ?_
        refine lv_iconst (v := 1) hx hb dL_law_969 (by decide) ?_
        refine r_eq01 hx hb dL_law_970 dL_law_973 dL_law_974 dL_law_977 ?_
        rw [w5 o v]
        refine lv_iload hx hb dL_law_978 (lv_at hl 2 rfl) ?_
        refine r_eq01 hx hb dL_law_980 dL_law_983 dL_law_984 dL_law_987 ?_
        rw [whit o v]
        have hb9 := ab_b hok0 (by omega) (show v < 6 by omega)
        cases hh : hitO o v
        · skip
          refine lv_istore (lv' := [(27, .int 0), (26, .ref (fa v)), (25, .int (nI v)), (24, .int (b2i (rbB o.rn o.d))), (9, .ref q9), (8, .ref q8), (7, .int (nI o.nv)), (6, .int (nI o.n)), (5, .int (nI o.d)), (4, .int x4), (3, .int x3), (2, .ref b.sm), (1, .ref lo), (0, .ref bs)]) hx hb dL_law_988 hl (by decide) rfl (fun ls hl => ?_)
          refine lv_iload hx hb dL_law_990 (lv_at hl 0 rfl) ?_
          refine lv_if_eq (tgt := 1004) hx hb dL_law_992 (by decide) (fun _ => ?_) (fun h => absurd (by decide) h)
          refine lv_iconst (v := 0) hx hb dL_law_1004 (by decide) ?_
          refine lv_istore (lv' := [(28, .int 0), (27, .int 0), (26, .ref (fa v)), (25, .int (nI v)), (24, .int (b2i (rbB o.rn o.d))), (9, .ref q9), (8, .ref q8), (7, .int (nI o.nv)), (6, .int (nI o.n)), (5, .int (nI o.d)), (4, .int x4), (3, .int x3), (2, .ref b.sm), (1, .ref lo), (0, .ref bs)]) hx hb dL_law_1005 hl (by decide) rfl (fun ls hl => ?_)
          refine lv_iload hx hb dL_law_1007 (lv_at hl 1 rfl) ?_
          refine lv_if_eq (tgt := 1021) hx hb dL_law_1009 (by decide) (fun _ => ?_) (fun h => absurd (by decide) h)
          refine lv_aload hx hb dL_law_1021 (lv_at hl 2 rfl) ?_
          refine lv_iconst (v := 1) hx hb dL_law_1023 (by decide) ?_
          refine w_tld hx hb hK hW T8 (u := v) (j := 1) (by omega) rfl (by omega) (by omega) trivial dL_law_1024 ?_
          rw [ab1 hok0 (by omega) (show v < 6 by omega)]
          refine lv_if_le (tgt := 1032) hx hb dL_law_1025 (by decide) (fun c1025 => ?_) (fun c1025 => ?_)
          · skip
            have c1025 : cO o v ≤ 0 := (nI_leI (a := cO o v) (b := 0) (by omega) (by omega)).mp (show nI (cO o v) ≤ nI 0 from c1025)
            refine lv_iconst (v := 0) hx hb dL_law_1032 (by decide) ?_
            refine lv_istore (lv' := [(29, .int 0), (28, .int 0), (27, .int 0), (26, .ref (fa v)), (25, .int (nI v)), (24, .int (b2i (rbB o.rn o.d))), (9, .ref q9), (8, .ref q8), (7, .int (nI o.nv)), (6, .int (nI o.n)), (5, .int (nI o.d)), (4, .int x4), (3, .int x3), (2, .ref b.sm), (1, .ref lo), (0, .ref bs)]) hx hb dL_law_1033 hl (by decide) rfl (fun ls hl => ?_)
            refine lv_aload_n hx hb dL_law_1035 rfl (lv_at hl 14 rfl) ?_
            refine lv_iload hx hb dL_law_1036 (lv_at hl 4 rfl) ?_
            refine lv_iconst (v := 0) hx hb dL_law_1038 (by decide) ?_
            refine u_about ⟨hx, hb, hml, hown, hts⟩ hst hK hZ hW hok (by omega) (u := v) (k := 0) (by omega) (by omega) (cwV 2 hts gL_law_X4_about rfl rfl rfl (by decide +kernel) ⟨Nat.le_of_ble_eq_true rfl, Nat.le_of_ble_eq_true rfl⟩) hl.1 (Nat.le_of_ble_eq_true rfl) dL_law_1039 ⟨by show _ ≤ 1200130; omega, by show _ ≤ 5501080; omega⟩ (fun H locs hW => ?_)
            refine lv_aload hx hb dL_law_1042 (lv_at hl 3 rfl) ?_
            refine lv_iconst (v := 0) hx hb dL_law_1044 (by decide) ?_
            refine w_tld hx hb hK hW T8 (u := v) (j := 0) (by omega) rfl (by omega) (by omega) trivial dL_law_1045 ?_
            refine lv_iload hx hb dL_law_1046 (lv_at hl 2 rfl) ?_
            refine lv_if_eq (tgt := 1055) hx hb dL_law_1048 (by decide) (fun _ => ?_) (fun h => absurd (by decide) h)
            refine lv_iconst (v := 0) hx hb dL_law_1055 (by decide) ?_
            refine lv_iadd hx hb dL_law_1056 ?_
            refine lv_topi (fun v1056 ev1056 => ?_)
            rw [show aboutO (dayO o) v 0 = v1056 from (day_0 (by omega)).trans (by rw [hh]; exact ev1056.symm)]
            refine lv_icmp_ne (tgt := 1089) hx hb dL_law_1057 (by decide) (fun h => absurd rfl h) (fun _ => ?_)
            refine lv_aload_n hx hb dL_law_1060 rfl (lv_at hl 14 rfl) ?_
            refine lv_iload hx hb dL_law_1061 (lv_at hl 4 rfl) ?_
            refine lv_iconst (v := 2) hx hb dL_law_1063 (by decide) ?_
            refine u_about ⟨hx, hb, hml, hown, hts⟩ hst hK hZ hW hok (by omega) (u := v) (k := 2) (by omega) (by omega) (cwV 2 hts gL_law_X4_about rfl rfl rfl (by decide +kernel) ⟨Nat.le_of_ble_eq_true rfl, Nat.le_of_ble_eq_true rfl⟩) hl.1 (Nat.le_of_ble_eq_true rfl) dL_law_1064 ⟨by show _ ≤ 1200130; omega, by show _ ≤ 5501080; omega⟩ (fun H locs hW => ?_)
            refine lv_iload hx hb dL_law_1067 (lv_at hl 1 rfl) ?_
            rw [show aboutO (dayO o) v 2 = 0 from (day_2 (by omega)).trans (by rw [hh]; rfl)]
            refine lv_icmp_ne (tgt := 1089) hx hb dL_law_1069 (by decide) (fun h => absurd rfl h) (fun _ => ?_)
            refine lv_aload_n hx hb dL_law_1072 rfl (lv_at hl 14 rfl) ?_
            refine lv_iload hx hb dL_law_1073 (lv_at hl 4 rfl) ?_
            refine lv_iconst (v := 1) hx hb dL_law_1075 (by decide) ?_
            refine u_about ⟨hx, hb, hml, hown, hts⟩ hst hK hZ hW hok (by omega) (u := v) (k := 1) (by omega) (by omega) (cwV 2 hts gL_law_X4_about rfl rfl rfl (by decide +kernel) ⟨Nat.le_of_ble_eq_true rfl, Nat.le_of_ble_eq_true rfl⟩) hl.1 (Nat.le_of_ble_eq_true rfl) dL_law_1076 ⟨by show _ ≤ 1200130; omega, by show _ ≤ 5501080; omega⟩ (fun H locs hW => ?_)
            refine lv_aload hx hb dL_law_1079 (lv_at hl 3 rfl) ?_
            refine lv_iconst (v := 1) hx hb dL_law_1081 (by decide) ?_
            refine w_tld hx hb hK hW T8 (u := v) (j := 1) (by omega) rfl (by omega) (by omega) trivial dL_law_1082 ?_
            refine lv_iload hx hb dL_law_1083 (lv_at hl 0 rfl) ?_
            refine lv_iadd hx hb dL_law_1085 ?_
            refine lv_topi (fun v1085 ev1085 => ?_)
            rw [show aboutO (dayO o) v 1 = v1085 from (more_f (by omega) hh).trans (by rw [if_pos (show aboutO o v 1 ≤ 0 by rw [ab1 hok0 (by omega) (show v < 6 by omega)]; exact nI_le (a := cO o v) (b := 0) (by omega) (by omega)), ev1085, Int32.add_zero])]
            refine lv_icmp_eq (tgt := 1091) hx hb dL_law_1086 (by decide) (fun _ => ?_) (fun h => absurd rfl h)
            refine lv_iconst (v := 0) hx hb dL_law_1091 (by decide) ?_
            refine lv_istore (lv' := [(30, .int 0), (29, .int 0), (28, .int 0), (27, .int 0), (26, .ref (fa v)), (25, .int (nI v)), (24, .int (b2i (rbB o.rn o.d))), (9, .ref q9), (8, .ref q8), (7, .int (nI o.nv)), (6, .int (nI o.n)), (5, .int (nI o.d)), (4, .int x4), (3, .int x3), (2, .ref b.sm), (1, .ref lo), (0, .ref bs)]) hx hb dL_law_1092 hl (by decide) rfl (fun ls hl => ?_)
            have K1094 : ∀ (n1094 : Nat) (k : Nat) (H : Heap) (locs : List Loc), o.n - k < n1094 → k ≤ o.n → WD g t lo b (dayO o) (dayO o) Lw fw (AA L0 s.heap.size) s.heap H locs → ∀ (ls : Array Slot), lv_has ls 32 [(30, .int (nI k)), (25, .int (nI v)), (24, .int (b2i (rbB o.rn o.d))), (9, .ref q9), (8, .ref q8), (7, .int (nI o.nv)), (6, .int (nI o.n)), (5, .int (nI o.d)), (4, .int x4), (3, .int x3), (2, .ref b.sm), (1, .ref lo), (0, .ref bs)] → W p l e room_1 s m args below meth c H locs (cells + 40 * v + 6 + 4 * k) (slots + 240 * v + 36 + 24 * k) Q (F0 m 1094 ls []) := by
              intro n1094
              induction n1094 with
              | zero => intros; omega
              | succ n1094 ih1094 =>
                intro k H locs hm1094 hk hW ls hl
                refine lv_iload hx hb dL_law_1094 (lv_at hl 0 rfl) ?_
                refine lv_iload hx hb dL_law_1096 (lv_at hl 6 rfl) ?_
                refine lv_icmp_ge (tgt := 1165) hx hb dL_law_1098 (by decide) (fun c1098 => ?_) (fun c1098 => ?_)
                · skip
                  have c1098 : o.n ≤ k := (nI_leI (a := o.n) (b := k) (by omega) (by omega)).mp (show nI o.n ≤ nI k from c1098)
                  refine lv_iinc (v := nI (v + 1)) (lv' := [(25, .int (nI (v + 1))), (30, .int (nI k)), (24, .int (b2i (rbB o.rn o.d))), (9, .ref q9), (8, .ref q8), (7, .int (nI o.nv)), (6, .int (nI o.n)), (5, .int (nI o.d)), (4, .int x4), (3, .int x3), (2, .ref b.sm), (1, .ref lo), (0, .ref bs)]) hx hb dL_law_1165 hl (k := 1) rfl (nI_1 _) (by decide) rfl (fun ls hl => ?_)
                  refine lv_goto (tgt := 951) hx hb dL_law_1168 (by decide) ?_
                  refine W.widen (by omega) (by omega) (ih951 (v + 1) H locs (by omega) (by omega) (hW) ls (lv_sub hl [0, 2, 3, 4, 5, 6, 7, 8, 9, 10, 11, 12] rfl))
                · skip
                  have c1098 : ¬ o.n ≤ k := fun h => c1098 ((nI_leI (a := o.n) (b := k) (by omega) (by omega)).mpr h)
                  refine lv_aload hx hb dL_law_1101 (lv_at hl 3 rfl) ?_
                  refine lv_iload hx hb dL_law_1103 (lv_at hl 1 rfl) ?_
                  refine w_tref hx hb hK hW T9 (u := v) rfl (by omega) (by omega) dL_law_1105 ?_
                  refine lv_iload hx hb dL_law_1106 (lv_at hl 0 rfl) ?_
                  refine w_tld hx hb hK hW T9 (u := v) (j := k) (by omega) rfl (by omega) (by omega) trivial dL_law_1108 ?_
                  refine lv_istore (lv' := [(31, .int (wtsO o v k)), (30, .int (nI k)), (25, .int (nI v)), (24, .int (b2i (rbB o.rn o.d))), (9, .ref q9), (8, .ref q8), (7, .int (nI o.nv)), (6, .int (nI o.n)), (5, .int (nI o.d)), (4, .int x4), (3, .int x3), (2, .ref b.sm), (1, .ref lo), (0, .ref bs)]) hx hb dL_law_1109 hl (by decide) rfl (fun ls hl => ?_)
                  refine lv_aload_n hx hb dL_law_1111 rfl (lv_at hl 12 rfl) ?_
                  refine lv_iload hx hb dL_law_1112 (lv_at hl 2 rfl) ?_
                  refine lv_iload hx hb dL_law_1114 (lv_at hl 1 rfl) ?_
                  refine u_weight ⟨hx, hb, hml, hown, hts⟩ hst hK hZ hW hok (by omega) (u := v) (j := k) (by omega) (by omega) (cwV 2 hts gL_law_X4_weight rfl rfl rfl (by decide +kernel) ⟨Nat.le_of_ble_eq_true rfl, Nat.le_of_ble_eq_true rfl⟩) hl.1 (Nat.le_of_ble_eq_true rfl) dL_law_1116 ⟨by show _ ≤ 1200130; omega, by show _ ≤ 5501080; omega⟩ (fun H locs hW => ?_)
                  refine lv_aload_n hx hb dL_law_1119 rfl (lv_at hl 12 rfl) ?_
                  refine lv_iload hx hb dL_law_1120 (lv_at hl 1 rfl) ?_
                  refine lv_iload hx hb dL_law_1122 (lv_at hl 8 rfl) ?_
                  refine lv_sipush (v := 924) hx hb dL_law_1124 (by decide) ?_
                  refine lv_irem hx hb dL_law_1127 (by decide) ?_
                  refine lv_topi (fun v1127 ev1127 => ?_)
                  rw [show v1127 = nI (o.d % 924) from (ev1127.trans (pk_rem (a := o.d) (d := 924) (by omega) (by decide) (by decide)))]
                  refine u_says ⟨hx, hb, hml, hown, hts⟩ hst hK hZ hW hok (by omega) (j := k) (k := (o.d % 924)) (by omega) (by omega) (cwV 2 hts gL_law_X4_says rfl rfl rfl (by decide +kernel) ⟨Nat.le_of_ble_eq_true rfl, Nat.le_of_ble_eq_true rfl⟩) hl.1 (Nat.le_of_ble_eq_true rfl) dL_law_1128 ⟨by show _ ≤ 1200130; omega, by show _ ≤ 5501080; omega⟩ (fun H locs hW => ?_)
                  rw [show b2i (sayB ((dayO o).kd k) ((dayO o).nu k) (dayO o).gl (dayO o).rn (o.d % 924)) = b2i (sayB (o.kd k) (o.nu k) o.gl o.rn o.d) from congrArg b2i (say_924 (by omega))]
                  refine lv_iload hx hb dL_law_1131 (lv_at hl 3 rfl) ?_
                  refine lv_icmp_ne (tgt := 1148) hx hb dL_law_1133 (by decide) (fun c1133 => ?_) (fun c1133 => ?_)
                  · skip
                    refine lv_iconst (v := 3) hx hb dL_law_1148 (by decide) ?_
                    refine lv_iload hx hb dL_law_1149 (lv_at hl 0 rfl) ?_
                    refine lv_imul hx hb dL_law_1151 ?_
                    refine lv_topi (fun v1151 ev1151 => ?_)
                    refine lv_iconst (v := 4) hx hb dL_law_1152 (by decide) ?_
                    refine lv_idiv hx hb dL_law_1153 (by decide) ?_
                    refine lv_topi (fun v1153 ev1153 => ?_)
                    rw [show ((dayO o).vs v).2.2.2.2 k = v1153 from (wd_f hok0 (by omega) (by omega) c1133).trans (by rw [ev1153, ev1151])]
                    refine lv_icmp_eq (tgt := 1159) hx hb dL_law_1154 (by decide) (fun _ => ?_) (fun h => absurd rfl h)
                    refine lv_iinc (v := nI (k + 1)) (lv' := [(30, .int (nI (k + 1))), (31, .int (wtsO o v k)), (25, .int (nI v)), (24, .int (b2i (rbB o.rn o.d))), (9, .ref q9), (8, .ref q8), (7, .int (nI o.nv)), (6, .int (nI o.n)), (5, .int (nI o.d)), (4, .int x4), (3, .int x3), (2, .ref b.sm), (1, .ref lo), (0, .ref bs)]) hx hb dL_law_1159 hl (k := 1) rfl (nI_1 _) (by decide) rfl (fun ls hl => ?_)
                    refine lv_goto (tgt := 1094) hx hb dL_law_1162 (by decide) ?_
                    refine W.widen (by omega) (by omega) (ih1094 (k + 1) H locs (by omega) (by omega) (hW) ls (lv_sub hl [0, 2, 3, 4, 5, 6, 7, 8, 9, 10, 11, 12, 13] rfl))
                  · skip
                    refine lv_bipush (v := 100) hx hb dL_law_1136 (by decide) ?_
                    refine lv_iload hx hb dL_law_1138 (lv_at hl 0 rfl) ?_
                    refine lv_iconst (v := 1) hx hb dL_law_1140 (by decide) ?_
                    refine lv_iadd hx hb dL_law_1141 ?_
                    refine lv_topi (fun v1141 ev1141 => ?_)
                    refine va_mmin hx hb (hml.trans hl.1.symm) hown (hts (.methodLink RL 129 Lib.Math.min.name) (by decide +kernel)) (hts (.static Lib.Math.min.name) (by decide +kernel)) (hts (.initialized "java/lang/Math") (by decide +kernel)) (hts (.code Lib.Math.min.name Lib.Math.min.code 2 (some .int)) (by decide +kernel)) (Nat.le_of_ble_eq_true rfl) (Nat.le_of_ble_eq_true rfl) (by show _ ≤ 1200130; omega) (by show _ ≤ 5501080; omega) dL_law_1142 ?_
                    refine lv_topi (fun v1142 ev1142 => ?_)
                    refine lv_goto (tgt := 1154) hx hb dL_law_1145 (by decide) ?_
                    rw [show ((dayO o).vs v).2.2.2.2 k = v1142 from (wd_t hok0 (by omega) (by omega) c1133).trans (by rw [ev1142, ev1141])]
                    refine lv_icmp_eq (tgt := 1159) hx hb dL_law_1154 (by decide) (fun _ => ?_) (fun h => absurd rfl h)
                    refine lv_iinc (v := nI (k + 1)) (lv' := [(30, .int (nI (k + 1))), (31, .int (wtsO o v k)), (25, .int (nI v)), (24, .int (b2i (rbB o.rn o.d))), (9, .ref q9), (8, .ref q8), (7, .int (nI o.nv)), (6, .int (nI o.n)), (5, .int (nI o.d)), (4, .int x4), (3, .int x3), (2, .ref b.sm), (1, .ref lo), (0, .ref bs)]) hx hb dL_law_1159 hl (k := 1) rfl (nI_1 _) (by decide) rfl (fun ls hl => ?_)
                    refine lv_goto (tgt := 1094) hx hb dL_law_1162 (by decide) ?_
                    refine W.widen (by omega) (by omega) (ih1094 (k + 1) H locs (by omega) (by omega) (hW) ls (lv_sub hl [0, 2, 3, 4, 5, 6, 7, 8, 9, 10, 11, 12, 13] rfl))
            refine W.widen (by omega) (by omega) (K1094 _ 0 H locs (Nat.lt_succ_self _) (by omega) (hW) ls (lv_sub hl [0, 5, 6, 7, 8, 9, 10, 11, 12, 13, 14, 15, 16] rfl))
          · skip
            have c1025 : ¬ cO o v ≤ 0 := fun h => c1025 ((nI_leI (a := cO o v) (b := 0) (by omega) (by omega)).mpr h)
            refine lv_iconst (v := (-1)) hx hb dL_law_1028 (by decide) ?_
            refine lv_goto (tgt := 1033) hx hb dL_law_1029 (by decide) ?_
            refine lv_istore (lv' := [(29, .int (-1)), (28, .int 0), (27, .int 0), (26, .ref (fa v)), (25, .int (nI v)), (24, .int (b2i (rbB o.rn o.d))), (9, .ref q9), (8, .ref q8), (7, .int (nI o.nv)), (6, .int (nI o.n)), (5, .int (nI o.d)), (4, .int x4), (3, .int x3), (2, .ref b.sm), (1, .ref lo), (0, .ref bs)]) hx hb dL_law_1033 hl (by decide) rfl (fun ls hl => ?_)
            refine lv_aload_n hx hb dL_law_1035 rfl (lv_at hl 14 rfl) ?_
            refine lv_iload hx hb dL_law_1036 (lv_at hl 4 rfl) ?_
            refine lv_iconst (v := 0) hx hb dL_law_1038 (by decide) ?_
            refine u_about ⟨hx, hb, hml, hown, hts⟩ hst hK hZ hW hok (by omega) (u := v) (k := 0) (by omega) (by omega) (cwV 2 hts gL_law_X4_about rfl rfl rfl (by decide +kernel) ⟨Nat.le_of_ble_eq_true rfl, Nat.le_of_ble_eq_true rfl⟩) hl.1 (Nat.le_of_ble_eq_true rfl) dL_law_1039 ⟨by show _ ≤ 1200130; omega, by show _ ≤ 5501080; omega⟩ (fun H locs hW => ?_)
            refine lv_aload hx hb dL_law_1042 (lv_at hl 3 rfl) ?_
            refine lv_iconst (v := 0) hx hb dL_law_1044 (by decide) ?_
            refine w_tld hx hb hK hW T8 (u := v) (j := 0) (by omega) rfl (by omega) (by omega) trivial dL_law_1045 ?_
            refine lv_iload hx hb dL_law_1046 (lv_at hl 2 rfl) ?_
            refine lv_if_eq (tgt := 1055) hx hb dL_law_1048 (by decide) (fun _ => ?_) (fun h => absurd (by decide) h)
            refine lv_iconst (v := 0) hx hb dL_law_1055 (by decide) ?_
            refine lv_iadd hx hb dL_law_1056 ?_
            refine lv_topi (fun v1056 ev1056 => ?_)
            rw [show aboutO (dayO o) v 0 = v1056 from (day_0 (by omega)).trans (by rw [hh]; exact ev1056.symm)]
            refine lv_icmp_ne (tgt := 1089) hx hb dL_law_1057 (by decide) (fun h => absurd rfl h) (fun _ => ?_)
            refine lv_aload_n hx hb dL_law_1060 rfl (lv_at hl 14 rfl) ?_
            refine lv_iload hx hb dL_law_1061 (lv_at hl 4 rfl) ?_
            refine lv_iconst (v := 2) hx hb dL_law_1063 (by decide) ?_
            refine u_about ⟨hx, hb, hml, hown, hts⟩ hst hK hZ hW hok (by omega) (u := v) (k := 2) (by omega) (by omega) (cwV 2 hts gL_law_X4_about rfl rfl rfl (by decide +kernel) ⟨Nat.le_of_ble_eq_true rfl, Nat.le_of_ble_eq_true rfl⟩) hl.1 (Nat.le_of_ble_eq_true rfl) dL_law_1064 ⟨by show _ ≤ 1200130; omega, by show _ ≤ 5501080; omega⟩ (fun H locs hW => ?_)
            refine lv_iload hx hb dL_law_1067 (lv_at hl 1 rfl) ?_
            rw [show aboutO (dayO o) v 2 = 0 from (day_2 (by omega)).trans (by rw [hh]; rfl)]
            refine lv_icmp_ne (tgt := 1089) hx hb dL_law_1069 (by decide) (fun h => absurd rfl h) (fun _ => ?_)
            refine lv_aload_n hx hb dL_law_1072 rfl (lv_at hl 14 rfl) ?_
            refine lv_iload hx hb dL_law_1073 (lv_at hl 4 rfl) ?_
            refine lv_iconst (v := 1) hx hb dL_law_1075 (by decide) ?_
            refine u_about ⟨hx, hb, hml, hown, hts⟩ hst hK hZ hW hok (by omega) (u := v) (k := 1) (by omega) (by omega) (cwV 2 hts gL_law_X4_about rfl rfl rfl (by decide +kernel) ⟨Nat.le_of_ble_eq_true rfl, Nat.le_of_ble_eq_true rfl⟩) hl.1 (Nat.le_of_ble_eq_true rfl) dL_law_1076 ⟨by show _ ≤ 1200130; omega, by show _ ≤ 5501080; omega⟩ (fun H locs hW => ?_)
            refine lv_aload hx hb dL_law_1079 (lv_at hl 3 rfl) ?_
            refine lv_iconst (v := 1) hx hb dL_law_1081 (by decide) ?_
            refine w_tld hx hb hK hW T8 (u := v) (j := 1) (by omega) rfl (by omega) (by omega) trivial dL_law_1082 ?_
            refine lv_iload hx hb dL_law_1083 (lv_at hl 0 rfl) ?_
            refine lv_iadd hx hb dL_law_1085 ?_
            refine lv_topi (fun v1085 ev1085 => ?_)
            rw [show aboutO (dayO o) v 1 = v1085 from (more_f (by omega) hh).trans (by rw [if_neg (show ¬ aboutO o v 1 ≤ 0 by rw [ab1 hok0 (by omega) (show v < 6 by omega)]; exact fun z => c1025 ((nI_leI (a := cO o v) (b := 0) (by omega) (by omega)).mp z)), ev1085, Int32.sub_eq_add_neg])]
            refine lv_icmp_eq (tgt := 1091) hx hb dL_law_1086 (by decide) (fun _ => ?_) (fun h => absurd rfl h)
            refine lv_iconst (v := 0) hx hb dL_law_1091 (by decide) ?_
            refine lv_istore (lv' := [(30, .int 0), (29, .int (-1)), (28, .int 0), (27, .int 0), (26, .ref (fa v)), (25, .int (nI v)), (24, .int (b2i (rbB o.rn o.d))), (9, .ref q9), (8, .ref q8), (7, .int (nI o.nv)), (6, .int (nI o.n)), (5, .int (nI o.d)), (4, .int x4), (3, .int x3), (2, .ref b.sm), (1, .ref lo), (0, .ref bs)]) hx hb dL_law_1092 hl (by decide) rfl (fun ls hl => ?_)
            have K1094 : ∀ (n1094 : Nat) (k : Nat) (H : Heap) (locs : List Loc), o.n - k < n1094 → k ≤ o.n → WD g t lo b (dayO o) (dayO o) Lw fw (AA L0 s.heap.size) s.heap H locs → ∀ (ls : Array Slot), lv_has ls 32 [(30, .int (nI k)), (25, .int (nI v)), (24, .int (b2i (rbB o.rn o.d))), (9, .ref q9), (8, .ref q8), (7, .int (nI o.nv)), (6, .int (nI o.n)), (5, .int (nI o.d)), (4, .int x4), (3, .int x3), (2, .ref b.sm), (1, .ref lo), (0, .ref bs)] → W p l e room_1 s m args below meth c H locs (cells + 40 * v + 6 + 4 * k) (slots + 240 * v + 36 + 24 * k) Q (F0 m 1094 ls []) := by
              intro n1094
              induction n1094 with
              | zero => intros; omega
              | succ n1094 ih1094 =>
                intro k H locs hm1094 hk hW ls hl
                refine lv_iload hx hb dL_law_1094 (lv_at hl 0 rfl) ?_
                refine lv_iload hx hb dL_law_1096 (lv_at hl 6 rfl) ?_
                refine lv_icmp_ge (tgt := 1165) hx hb dL_law_1098 (by decide) (fun c1098 => ?_) (fun c1098 => ?_)
                · skip
                  have c1098 : o.n ≤ k := (nI_leI (a := o.n) (b := k) (by omega) (by omega)).mp (show nI o.n ≤ nI k from c1098)
                  refine lv_iinc (v := nI (v + 1)) (lv' := [(25, .int (nI (v + 1))), (30, .int (nI k)), (24, .int (b2i (rbB o.rn o.d))), (9, .ref q9), (8, .ref q8), (7, .int (nI o.nv)), (6, .int (nI o.n)), (5, .int (nI o.d)), (4, .int x4), (3, .int x3), (2, .ref b.sm), (1, .ref lo), (0, .ref bs)]) hx hb dL_law_1165 hl (k := 1) rfl (nI_1 _) (by decide) rfl (fun ls hl => ?_)
                  refine lv_goto (tgt := 951) hx hb dL_law_1168 (by decide) ?_
                  refine W.widen (by omega) (by omega) (ih951 (v + 1) H locs (by omega) (by omega) (hW) ls (lv_sub hl [0, 2, 3, 4, 5, 6, 7, 8, 9, 10, 11, 12] rfl))
                · skip
                  have c1098 : ¬ o.n ≤ k := fun h => c1098 ((nI_leI (a := o.n) (b := k) (by omega) (by omega)).mpr h)
                  refine lv_aload hx hb dL_law_1101 (lv_at hl 3 rfl) ?_
                  refine lv_iload hx hb dL_law_1103 (lv_at hl 1 rfl) ?_
                  refine w_tref hx hb hK hW T9 (u := v) rfl (by omega) (by omega) dL_law_1105 ?_
                  refine lv_iload hx hb dL_law_1106 (lv_at hl 0 rfl) ?_
                  refine w_tld hx hb hK hW T9 (u := v) (j := k) (by omega) rfl (by omega) (by omega) trivial dL_law_1108 ?_
                  refine lv_istore (lv' := [(31, .int (wtsO o v k)), (30, .int (nI k)), (25, .int (nI v)), (24, .int (b2i (rbB o.rn o.d))), (9, .ref q9), (8, .ref q8), (7, .int (nI o.nv)), (6, .int (nI o.n)), (5, .int (nI o.d)), (4, .int x4), (3, .int x3), (2, .ref b.sm), (1, .ref lo), (0, .ref bs)]) hx hb dL_law_1109 hl (by decide) rfl (fun ls hl => ?_)
                  refine lv_aload_n hx hb dL_law_1111 rfl (lv_at hl 12 rfl) ?_
                  refine lv_iload hx hb dL_law_1112 (lv_at hl 2 rfl) ?_
                  refine lv_iload hx hb dL_law_1114 (lv_at hl 1 rfl) ?_
                  refine u_weight ⟨hx, hb, hml, hown, hts⟩ hst hK hZ hW hok (by omega) (u := v) (j := k) (by omega) (by omega) (cwV 2 hts gL_law_X4_weight rfl rfl rfl (by decide +kernel) ⟨Nat.le_of_ble_eq_true rfl, Nat.le_of_ble_eq_true rfl⟩) hl.1 (Nat.le_of_ble_eq_true rfl) dL_law_1116 ⟨by show _ ≤ 1200130; omega, by show _ ≤ 5501080; omega⟩ (fun H locs hW => ?_)
                  refine lv_aload_n hx hb dL_law_1119 rfl (lv_at hl 12 rfl) ?_
                  refine lv_iload hx hb dL_law_1120 (lv_at hl 1 rfl) ?_
                  refine lv_iload hx hb dL_law_1122 (lv_at hl 8 rfl) ?_
                  refine lv_sipush (v := 924) hx hb dL_law_1124 (by decide) ?_
                  refine lv_irem hx hb dL_law_1127 (by decide) ?_
                  refine lv_topi (fun v1127 ev1127 => ?_)
                  rw [show v1127 = nI (o.d % 924) from (ev1127.trans (pk_rem (a := o.d) (d := 924) (by omega) (by decide) (by decide)))]
                  refine u_says ⟨hx, hb, hml, hown, hts⟩ hst hK hZ hW hok (by omega) (j := k) (k := (o.d % 924)) (by omega) (by omega) (cwV 2 hts gL_law_X4_says rfl rfl rfl (by decide +kernel) ⟨Nat.le_of_ble_eq_true rfl, Nat.le_of_ble_eq_true rfl⟩) hl.1 (Nat.le_of_ble_eq_true rfl) dL_law_1128 ⟨by show _ ≤ 1200130; omega, by show _ ≤ 5501080; omega⟩ (fun H locs hW => ?_)
                  rw [show b2i (sayB ((dayO o).kd k) ((dayO o).nu k) (dayO o).gl (dayO o).rn (o.d % 924)) = b2i (sayB (o.kd k) (o.nu k) o.gl o.rn o.d) from congrArg b2i (say_924 (by omega))]
                  refine lv_iload hx hb dL_law_1131 (lv_at hl 3 rfl) ?_
                  refine lv_icmp_ne (tgt := 1148) hx hb dL_law_1133 (by decide) (fun c1133 => ?_) (fun c1133 => ?_)
                  · skip
                    refine lv_iconst (v := 3) hx hb dL_law_1148 (by decide) ?_
                    refine lv_iload hx hb dL_law_1149 (lv_at hl 0 rfl) ?_
                    refine lv_imul hx hb dL_law_1151 ?_
                    refine lv_topi (fun v1151 ev1151 => ?_)
                    refine lv_iconst (v := 4) hx hb dL_law_1152 (by decide) ?_
                    refine lv_idiv hx hb dL_law_1153 (by decide) ?_
                    refine lv_topi (fun v1153 ev1153 => ?_)
                    rw [show ((dayO o).vs v).2.2.2.2 k = v1153 from (wd_f hok0 (by omega) (by omega) c1133).trans (by rw [ev1153, ev1151])]
                    refine lv_icmp_eq (tgt := 1159) hx hb dL_law_1154 (by decide) (fun _ => ?_) (fun h => absurd rfl h)
                    refine lv_iinc (v := nI (k + 1)) (lv' := [(30, .int (nI (k + 1))), (31, .int (wtsO o v k)), (25, .int (nI v)), (24, .int (b2i (rbB o.rn o.d))), (9, .ref q9), (8, .ref q8), (7, .int (nI o.nv)), (6, .int (nI o.n)), (5, .int (nI o.d)), (4, .int x4), (3, .int x3), (2, .ref b.sm), (1, .ref lo), (0, .ref bs)]) hx hb dL_law_1159 hl (k := 1) rfl (nI_1 _) (by decide) rfl (fun ls hl => ?_)
                    refine lv_goto (tgt := 1094) hx hb dL_law_1162 (by decide) ?_
                    refine W.widen (by omega) (by omega) (ih1094 (k + 1) H locs (by omega) (by omega) (hW) ls (lv_sub hl [0, 2, 3, 4, 5, 6, 7, 8, 9, 10, 11, 12, 13] rfl))
                  · skip
                    refine lv_bipush (v := 100) hx hb dL_law_1136 (by decide) ?_
                    refine lv_iload hx hb dL_law_1138 (lv_at hl 0 rfl) ?_
                    refine lv_iconst (v := 1) hx hb dL_law_1140 (by decide) ?_
                    refine lv_iadd hx hb dL_law_1141 ?_
                    refine lv_topi (fun v1141 ev1141 => ?_)
                    refine va_mmin hx hb (hml.trans hl.1.symm) hown (hts (.methodLink RL 129 Lib.Math.min.name) (by decide +kernel)) (hts (.static Lib.Math.min.name) (by decide +kernel)) (hts (.initialized "java/lang/Math") (by decide +kernel)) (hts (.code Lib.Math.min.name Lib.Math.min.code 2 (some .int)) (by decide +kernel)) (Nat.le_of_ble_eq_true rfl) (Nat.le_of_ble_eq_true rfl) (by show _ ≤ 1200130; omega) (by show _ ≤ 5501080; omega) dL_law_1142 ?_
                    refine lv_topi (fun v1142 ev1142 => ?_)
                    refine lv_goto (tgt := 1154) hx hb dL_law_1145 (by decide) ?_
                    rw [show ((dayO o).vs v).2.2.2.2 k = v1142 from (wd_t hok0 (by omega) (by omega) c1133).trans (by rw [ev1142, ev1141])]
                    refine lv_icmp_eq (tgt := 1159) hx hb dL_law_1154 (by decide) (fun _ => ?_) (fun h => absurd rfl h)
                    refine lv_iinc (v := nI (k + 1)) (lv' := [(30, .int (nI (k + 1))), (31, .int (wtsO o v k)), (25, .int (nI v)), (24, .int (b2i (rbB o.rn o.d))), (9, .ref q9), (8, .ref q8), (7, .int (nI o.nv)), (6, .int (nI o.n)), (5, .int (nI o.d)), (4, .int x4), (3, .int x3), (2, .ref b.sm), (1, .ref lo), (0, .ref bs)]) hx hb dL_law_1159 hl (k := 1) rfl (nI_1 _) (by decide) rfl (fun ls hl => ?_)
                    refine lv_goto (tgt := 1094) hx hb dL_law_1162 (by decide) ?_
                    refine W.widen (by omega) (by omega) (ih1094 (k + 1) H locs (by omega) (by omega) (hW) ls (lv_sub hl [0, 2, 3, 4, 5, 6, 7, 8, 9, 10, 11, 12, 13] rfl))
            refine W.widen (by omega) (by omega) (K1094 _ 0 H locs (Nat.lt_succ_self _) (by omega) (hW) ls (lv_sub hl [0, 5, 6, 7, 8, 9, 10, 11, 12, 13, 14, 15, 16] rfl))
        · skip
          refine lv_istore (lv' := [(27, .int 1), (26, .ref (fa v)), (25, .int (nI v)), (24, .int (b2i (rbB o.rn o.d))), (9, .ref q9), (8, .ref q8), (7, .int (nI o.nv)), (6, .int (nI o.n)), (5, .int (nI o.d)), (4, .int x4), (3, .int x3), (2, .ref b.sm), (1, .ref lo), (0, .ref bs)]) hx hb dL_law_988 hl (by decide) rfl (fun ls hl => ?_)
          refine lv_iload hx hb dL_law_990 (lv_at hl 0 rfl) ?_
          refine lv_if_eq (tgt := 1004) hx hb dL_law_992 (by decide) (fun h => absurd h (by decide)) (fun _ => ?_)
          refine lv_aload hx hb dL_law_995 (lv_at hl 1 rfl) ?_
          refine lv_iconst (v := 2) hx hb dL_law_997 (by decide) ?_
          refine w_tld hx hb hK hW T8 (u := v) (j := 2) (by omega) rfl (by omega) (by omega) trivial dL_law_998 ?_
          rw [ab2 hok0 (by omega) (show v < 6 by omega)]
          refine lv_iconst (v := 1) hx hb dL_law_999 (by decide) ?_
          refine lv_iadd hx hb dL_law_1000 ?_
          refine lv_topi (fun v1000 ev1000 => ?_)
          refine lv_goto (tgt := 1005) hx hb dL_law_1001 (by decide) ?_
          refine lv_istore (lv' := [(28, .int v1000), (27, .int 1), (26, .ref (fa v)), (25, .int (nI v)), (24, .int (b2i (rbB o.rn o.d))), (9, .ref q9), (8, .ref q8), (7, .int (nI o.nv)), (6, .int (nI o.n)), (5, .int (nI o.d)), (4, .int x4), (3, .int x3), (2, .ref b.sm), (1, .ref lo), (0, .ref bs)]) hx hb dL_law_1005 hl (by decide) rfl (fun ls hl => ?_)
          refine lv_iload hx hb dL_law_1007 (lv_at hl 1 rfl) ?_
          refine lv_if_eq (tgt := 1021) hx hb dL_law_1009 (by decide) (fun h => absurd h (by decide)) (fun _ => ?_)
          refine lv_iconst (v := 5) hx hb dL_law_1012 (by decide) ?_
          refine lv_iload hx hb dL_law_1013 (lv_at hl 0 rfl) ?_
          refine va_mmin hx hb (hml.trans hl.1.symm) hown (hts (.methodLink RL 129 Lib.Math.min.name) (by decide +kernel)) (hts (.static Lib.Math.min.name) (by decide +kernel)) (hts (.initialized "java/lang/Math") (by decide +kernel)) (hts (.code Lib.Math.min.name Lib.Math.min.code 2 (some .int)) (by decide +kernel)) (Nat.le_of_ble_eq_true rfl) (Nat.le_of_ble_eq_true rfl) (by show _ ≤ 1200130; omega) (by show _ ≤ 5501080; omega) dL_law_1015 ?_
          refine lv_topi (fun v1015 ev1015 => ?_)
          refine lv_goto (tgt := 1033) hx hb dL_law_1018 (by decide) ?_
          refine lv_istore (lv' := [(29, .int v1015), (28, .int v1000), (27, .int 1), (26, .ref (fa v)), (25, .int (nI v)), (24, .int (b2i (rbB o.rn o.d))), (9, .ref q9), (8, .ref q8), (7, .int (nI o.nv)), (6, .int (nI o.n)), (5, .int (nI o.d)), (4, .int x4), (3, .int x3), (2, .ref b.sm), (1, .ref lo), (0, .ref bs)]) hx hb dL_law_1033 hl (by decide) rfl (fun ls hl => ?_)
          refine lv_aload_n hx hb dL_law_1035 rfl (lv_at hl 14 rfl) ?_
          refine lv_iload hx hb dL_law_1036 (lv_at hl 4 rfl) ?_
          refine lv_iconst (v := 0) hx hb dL_law_1038 (by decide) ?_
          refine u_about ⟨hx, hb, hml, hown, hts⟩ hst hK hZ hW hok (by omega) (u := v) (k := 0) (by omega) (by omega) (cwV 2 hts gL_law_X4_about rfl rfl rfl (by decide +kernel) ⟨Nat.le_of_ble_eq_true rfl, Nat.le_of_ble_eq_true rfl⟩) hl.1 (Nat.le_of_ble_eq_true rfl) dL_law_1039 ⟨by show _ ≤ 1200130; omega, by show _ ≤ 5501080; omega⟩ (fun H locs hW => ?_)
          refine lv_aload hx hb dL_law_1042 (lv_at hl 3 rfl) ?_
          refine lv_iconst (v := 0) hx hb dL_law_1044 (by decide) ?_
          refine w_tld hx hb hK hW T8 (u := v) (j := 0) (by omega) rfl (by omega) (by omega) trivial dL_law_1045 ?_
          refine lv_iload hx hb dL_law_1046 (lv_at hl 2 rfl) ?_
          refine lv_if_eq (tgt := 1055) hx hb dL_law_1048 (by decide) (fun h => absurd h (by decide)) (fun _ => ?_)
          refine lv_iconst (v := 1) hx hb dL_law_1051 (by decide) ?_
          refine lv_goto (tgt := 1056) hx hb dL_law_1052 (by decide) ?_
          refine lv_iadd hx hb dL_law_1056 ?_
          refine lv_topi (fun v1056 ev1056 => ?_)
          rw [show aboutO (dayO o) v 0 = v1056 from (day_0 (by omega)).trans (by rw [hh]; exact ev1056.symm)]
          refine lv_icmp_ne (tgt := 1089) hx hb dL_law_1057 (by decide) (fun h => absurd rfl h) (fun _ => ?_)
          refine lv_aload_n hx hb dL_law_1060 rfl (lv_at hl 14 rfl) ?_
          refine lv_iload hx hb dL_law_1061 (lv_at hl 4 rfl) ?_
          refine lv_iconst (v := 2) hx hb dL_law_1063 (by decide) ?_
          refine u_about ⟨hx, hb, hml, hown, hts⟩ hst hK hZ hW hok (by omega) (u := v) (k := 2) (by omega) (by omega) (cwV 2 hts gL_law_X4_about rfl rfl rfl (by decide +kernel) ⟨Nat.le_of_ble_eq_true rfl, Nat.le_of_ble_eq_true rfl⟩) hl.1 (Nat.le_of_ble_eq_true rfl) dL_law_1064 ⟨by show _ ≤ 1200130; omega, by show _ ≤ 5501080; omega⟩ (fun H locs hW => ?_)
          refine lv_iload hx hb dL_law_1067 (lv_at hl 1 rfl) ?_
          rw [show aboutO (dayO o) v 2 = v1000 from (day_2 (by omega)).trans (by rw [hh, if_pos rfl, ab2 hok0 (by omega) (show v < 6 by omega), nI_1]; exact (ev1000.trans (nat_add rfl rfl)).symm)]
          refine lv_icmp_ne (tgt := 1089) hx hb dL_law_1069 (by decide) (fun h => absurd rfl h) (fun _ => ?_)
          refine lv_aload_n hx hb dL_law_1072 rfl (lv_at hl 14 rfl) ?_
          refine lv_iload hx hb dL_law_1073 (lv_at hl 4 rfl) ?_
          refine lv_iconst (v := 1) hx hb dL_law_1075 (by decide) ?_
          refine u_about ⟨hx, hb, hml, hown, hts⟩ hst hK hZ hW hok (by omega) (u := v) (k := 1) (by omega) (by omega) (cwV 2 hts gL_law_X4_about rfl rfl rfl (by decide +kernel) ⟨Nat.le_of_ble_eq_true rfl, Nat.le_of_ble_eq_true rfl⟩) hl.1 (Nat.le_of_ble_eq_true rfl) dL_law_1076 ⟨by show _ ≤ 1200130; omega, by show _ ≤ 5501080; omega⟩ (fun H locs hW => ?_)
          refine lv_aload hx hb dL_law_1079 (lv_at hl 3 rfl) ?_
          refine lv_iconst (v := 1) hx hb dL_law_1081 (by decide) ?_
          refine w_tld hx hb hK hW T8 (u := v) (j := 1) (by omega) rfl (by omega) (by omega) trivial dL_law_1082 ?_
          refine lv_iload hx hb dL_law_1083 (lv_at hl 0 rfl) ?_
          refine lv_iadd hx hb dL_law_1085 ?_
          refine lv_topi (fun v1085 ev1085 => ?_)
          rw [show aboutO (dayO o) v 1 = v1085 from (more_t hok0 (by omega) (by omega) hh (ev1000.trans (nat_add rfl rfl)) ev1015).trans ev1085.symm]
          refine lv_icmp_eq (tgt := 1091) hx hb dL_law_1086 (by decide) (fun _ => ?_) (fun h => absurd rfl h)
          refine lv_iconst (v := 0) hx hb dL_law_1091 (by decide) ?_
          refine lv_istore (lv' := [(30, .int 0), (29, .int v1015), (28, .int v1000), (27, .int 1), (26, .ref (fa v)), (25, .int (nI v)), (24, .int (b2i (rbB o.rn o.d))), (9, .ref q9), (8, .ref q8), (7, .int (nI o.nv)), (6, .int (nI o.n)), (5, .int (nI o.d)), (4, .int x4), (3, .int x3), (2, .ref b.sm), (1, .ref lo), (0, .ref bs)]) hx hb dL_law_1092 hl (by decide) rfl (fun ls hl => ?_)
          have K1094 : ∀ (n1094 : Nat) (k : Nat) (H : Heap) (locs : List Loc), o.n - k < n1094 → k ≤ o.n → WD g t lo b (dayO o) (dayO o) Lw fw (AA L0 s.heap.size) s.heap H locs → ∀ (ls : Array Slot), lv_has ls 32 [(30, .int (nI k)), (25, .int (nI v)), (24, .int (b2i (rbB o.rn o.d))), (9, .ref q9), (8, .ref q8), (7, .int (nI o.nv)), (6, .int (nI o.n)), (5, .int (nI o.d)), (4, .int x4), (3, .int x3), (2, .ref b.sm), (1, .ref lo), (0, .ref bs)] → W p l e room_1 s m args below meth c H locs (cells + 40 * v + 6 + 4 * k) (slots + 240 * v + 36 + 24 * k) Q (F0 m 1094 ls []) := by
            intro n1094
            induction n1094 with
            | zero => intros; omega
            | succ n1094 ih1094 =>
              intro k H locs hm1094 hk hW ls hl
              refine lv_iload hx hb dL_law_1094 (lv_at hl 0 rfl) ?_
              refine lv_iload hx hb dL_law_1096 (lv_at hl 6 rfl) ?_
              refine lv_icmp_ge (tgt := 1165) hx hb dL_law_1098 (by decide) (fun c1098 => ?_) (fun c1098 => ?_)
              · skip
                have c1098 : o.n ≤ k := (nI_leI (a := o.n) (b := k) (by omega) (by omega)).mp (show nI o.n ≤ nI k from c1098)
                refine lv_iinc (v := nI (v + 1)) (lv' := [(25, .int (nI (v + 1))), (30, .int (nI k)), (24, .int (b2i (rbB o.rn o.d))), (9, .ref q9), (8, .ref q8), (7, .int (nI o.nv)), (6, .int (nI o.n)), (5, .int (nI o.d)), (4, .int x4), (3, .int x3), (2, .ref b.sm), (1, .ref lo), (0, .ref bs)]) hx hb dL_law_1165 hl (k := 1) rfl (nI_1 _) (by decide) rfl (fun ls hl => ?_)
                refine lv_goto (tgt := 951) hx hb dL_law_1168 (by decide) ?_
                refine W.widen (by omega) (by omega) (ih951 (v + 1) H locs (by omega) (by omega) (hW) ls (lv_sub hl [0, 2, 3, 4, 5, 6, 7, 8, 9, 10, 11, 12] rfl))
              · skip
                have c1098 : ¬ o.n ≤ k := fun h => c1098 ((nI_leI (a := o.n) (b := k) (by omega) (by omega)).mpr h)
                refine lv_aload hx hb dL_law_1101 (lv_at hl 3 rfl) ?_
                refine lv_iload hx hb dL_law_1103 (lv_at hl 1 rfl) ?_
                refine w_tref hx hb hK hW T9 (u := v) rfl (by omega) (by omega) dL_law_1105 ?_
                refine lv_iload hx hb dL_law_1106 (lv_at hl 0 rfl) ?_
                refine w_tld hx hb hK hW T9 (u := v) (j := k) (by omega) rfl (by omega) (by omega) trivial dL_law_1108 ?_
                refine lv_istore (lv' := [(31, .int (wtsO o v k)), (30, .int (nI k)), (25, .int (nI v)), (24, .int (b2i (rbB o.rn o.d))), (9, .ref q9), (8, .ref q8), (7, .int (nI o.nv)), (6, .int (nI o.n)), (5, .int (nI o.d)), (4, .int x4), (3, .int x3), (2, .ref b.sm), (1, .ref lo), (0, .ref bs)]) hx hb dL_law_1109 hl (by decide) rfl (fun ls hl => ?_)
                refine lv_aload_n hx hb dL_law_1111 rfl (lv_at hl 12 rfl) ?_
                refine lv_iload hx hb dL_law_1112 (lv_at hl 2 rfl) ?_
                refine lv_iload hx hb dL_law_1114 (lv_at hl 1 rfl) ?_
                refine u_weight ⟨hx, hb, hml, hown, hts⟩ hst hK hZ hW hok (by omega) (u := v) (j := k) (by omega) (by omega) (cwV 2 hts gL_law_X4_weight rfl rfl rfl (by decide +kernel) ⟨Nat.le_of_ble_eq_true rfl, Nat.le_of_ble_eq_true rfl⟩) hl.1 (Nat.le_of_ble_eq_true rfl) dL_law_1116 ⟨by show _ ≤ 1200130; omega, by show _ ≤ 5501080; omega⟩ (fun H locs hW => ?_)
                refine lv_aload_n hx hb dL_law_1119 rfl (lv_at hl 12 rfl) ?_
                refine lv_iload hx hb dL_law_1120 (lv_at hl 1 rfl) ?_
                refine lv_iload hx hb dL_law_1122 (lv_at hl 8 rfl) ?_
                refine lv_sipush (v := 924) hx hb dL_law_1124 (by decide) ?_
                refine lv_irem hx hb dL_law_1127 (by decide) ?_
                refine lv_topi (fun v1127 ev1127 => ?_)
                rw [show v1127 = nI (o.d % 924) from (ev1127.trans (pk_rem (a := o.d) (d := 924) (by omega) (by decide) (by decide)))]
                refine u_says ⟨hx, hb, hml, hown, hts⟩ hst hK hZ hW hok (by omega) (j := k) (k := (o.d % 924)) (by omega) (by omega) (cwV 2 hts gL_law_X4_says rfl rfl rfl (by decide +kernel) ⟨Nat.le_of_ble_eq_true rfl, Nat.le_of_ble_eq_true rfl⟩) hl.1 (Nat.le_of_ble_eq_true rfl) dL_law_1128 ⟨by show _ ≤ 1200130; omega, by show _ ≤ 5501080; omega⟩ (fun H locs hW => ?_)
                rw [show b2i (sayB ((dayO o).kd k) ((dayO o).nu k) (dayO o).gl (dayO o).rn (o.d % 924)) = b2i (sayB (o.kd k) (o.nu k) o.gl o.rn o.d) from congrArg b2i (say_924 (by omega))]
                refine lv_iload hx hb dL_law_1131 (lv_at hl 3 rfl) ?_
                refine lv_icmp_ne (tgt := 1148) hx hb dL_law_1133 (by decide) (fun c1133 => ?_) (fun c1133 => ?_)
                · skip
                  refine lv_iconst (v := 3) hx hb dL_law_1148 (by decide) ?_
                  refine lv_iload hx hb dL_law_1149 (lv_at hl 0 rfl) ?_
                  refine lv_imul hx hb dL_law_1151 ?_
                  refine lv_topi (fun v1151 ev1151 => ?_)
                  refine lv_iconst (v := 4) hx hb dL_law_1152 (by decide) ?_
                  refine lv_idiv hx hb dL_law_1153 (by decide) ?_
                  refine lv_topi (fun v1153 ev1153 => ?_)
                  rw [show ((dayO o).vs v).2.2.2.2 k = v1153 from (wd_f hok0 (by omega) (by omega) c1133).trans (by rw [ev1153, ev1151])]
                  refine lv_icmp_eq (tgt := 1159) hx hb dL_law_1154 (by decide) (fun _ => ?_) (fun h => absurd rfl h)
                  refine lv_iinc (v := nI (k + 1)) (lv' := [(30, .int (nI (k + 1))), (31, .int (wtsO o v k)), (25, .int (nI v)), (24, .int (b2i (rbB o.rn o.d))), (9, .ref q9), (8, .ref q8), (7, .int (nI o.nv)), (6, .int (nI o.n)), (5, .int (nI o.d)), (4, .int x4), (3, .int x3), (2, .ref b.sm), (1, .ref lo), (0, .ref bs)]) hx hb dL_law_1159 hl (k := 1) rfl (nI_1 _) (by decide) rfl (fun ls hl => ?_)
                  refine lv_goto (tgt := 1094) hx hb dL_law_1162 (by decide) ?_
                  refine W.widen (by omega) (by omega) (ih1094 (k + 1) H locs (by omega) (by omega) (hW) ls (lv_sub hl [0, 2, 3, 4, 5, 6, 7, 8, 9, 10, 11, 12, 13] rfl))
                · skip
                  refine lv_bipush (v := 100) hx hb dL_law_1136 (by decide) ?_
                  refine lv_iload hx hb dL_law_1138 (lv_at hl 0 rfl) ?_
                  refine lv_iconst (v := 1) hx hb dL_law_1140 (by decide) ?_
                  refine lv_iadd hx hb dL_law_1141 ?_
                  refine lv_topi (fun v1141 ev1141 => ?_)
                  refine va_mmin hx hb (hml.trans hl.1.symm) hown (hts (.methodLink RL 129 Lib.Math.min.name) (by decide +kernel)) (hts (.static Lib.Math.min.name) (by decide +kernel)) (hts (.initialized "java/lang/Math") (by decide +kernel)) (hts (.code Lib.Math.min.name Lib.Math.min.code 2 (some .int)) (by decide +kernel)) (Nat.le_of_ble_eq_true rfl) (Nat.le_of_ble_eq_true rfl) (by show _ ≤ 1200130; omega) (by show _ ≤ 5501080; omega) dL_law_1142 ?_
                  refine lv_topi (fun v1142 ev1142 => ?_)
                  refine lv_goto (tgt := 1154) hx hb dL_law_1145 (by decide) ?_
                  rw [show ((dayO o).vs v).2.2.2.2 k = v1142 from (wd_t hok0 (by omega) (by omega) c1133).trans (by rw [ev1142, ev1141])]
                  refine lv_icmp_eq (tgt := 1159) hx hb dL_law_1154 (by decide) (fun _ => ?_) (fun h => absurd rfl h)
                  refine lv_iinc (v := nI (k + 1)) (lv' := [(30, .int (nI (k + 1))), (31, .int (wtsO o v k)), (25, .int (nI v)), (24, .int (b2i (rbB o.rn o.d))), (9, .ref q9), (8, .ref q8), (7, .int (nI o.nv)), (6, .int (nI o.n)), (5, .int (nI o.d)), (4, .int x4), (3, .int x3), (2, .ref b.sm), (1, .ref lo), (0, .ref bs)]) hx hb dL_law_1159 hl (k := 1) rfl (nI_1 _) (by decide) rfl (fun ls hl => ?_)
                  refine lv_goto (tgt := 1094) hx hb dL_law_1162 (by decide) ?_
                  refine W.widen (by omega) (by omega) (ih1094 (k + 1) H locs (by omega) (by omega) (hW) ls (lv_sub hl [0, 2, 3, 4, 5, 6, 7, 8, 9, 10, 11, 12, 13] rfl))
          refine W.widen (by omega) (by omega) (K1094 _ 0 H locs (Nat.lt_succ_self _) (by omega) (hW) ls (lv_sub hl [0, 5, 6, 7, 8, 9, 10, 11, 12, 13, 14, 15, 16] rfl))
  refine W.widen (by omega) (by omega) (K951 _ 0 H locs (Nat.lt_succ_self _) (by omega) (hW) ls (lv_sub hl [0, 1, 2, 3, 4, 5, 6, 7, 8, 9, 10, 11] rfl))
