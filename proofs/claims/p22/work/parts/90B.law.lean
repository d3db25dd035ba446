/-! ===== the law, piece B ===== -/
set_option maxHeartbeats 8000000 in
set_option maxRecDepth 100000 in
theorem lw_B {p : Program} {l : Launch} {e : Env} {s : State} {m : MethodId} {args : Array Value} {below : List Frame} {meth : Method} {c : Code} {Q : State → Prop} {g : GG} {t lo : Nat} {L0 : List Nat} {b : SmA} {o : OB} {M cells slots : Nat} {H : Heap} {locs : List Loc} {ls : Array Slot} {Lw : List Nat} {fw : Nat → va_E} {q8 q9 bs : Nat} {fa fb : Nat → Nat} {x3 x4 : Int32} (C : LK p l s m args c cL_law 32 wsL_law RL g t L0) (hok : OkO M o) (hM : M + 300 < 2 ^ 28) (hW : WD g t lo b o o Lw fw (AA L0 s.heap.size) s.heap H locs) (hl : lv_has ls 32 [(14, .int 0), (13, .int 0), (12, .int 0), (11, .int 0), (10, .int 0), (9, .ref q9), (8, .ref q8), (7, .int (nI o.nv)), (6, .int (nI o.n)), (5, .int (nI o.d)), (4, .int x4), (3, .int x3), (2, .ref b.sm), (1, .ref lo), (0, .ref bs)]) (T8 : TB g Lw fw q8 7 o.nv fa (fun _ _ => False) (aboutO o)) (T9 : TB g Lw fw q9 o.n o.nv fb (fun _ _ => False) (wtsO o)) (hD : ∀ u v, u < o.nv → v < o.nv → fa u ≠ fb v) (hc : cells + 360 ≤ 1200130) (hs : slots + 2160 ≤ 5501080) (kk : ∀ (fw2 : Nat → va_E) (H : Heap) (locs : List Loc) (ls : Array Slot), TB g Lw fw2 q8 7 o.nv fa KA (aboutO o) → TB g Lw fw2 q9 o.n o.nv fb KA (wtsO o) → WD g t lo b o o Lw fw2 (AA L0 s.heap.size) s.heap H locs → lv_has ls 32 [(13, .int (nI (bitP o o.nv))), (12, .int (countO o 5)), (11, .int (countO o 4)), (10, .int (countO o 3)), (9, .ref q9), (8, .ref q8), (7, .int (nI o.nv)), (6, .int (nI o.n)), (5, .int (nI o.d)), (4, .int x4), (3, .int x3), (2, .ref b.sm), (1, .ref lo), (0, .ref bs)] → W p l e room_1 s m args below meth c H locs (cells + 360) (slots + 2160) Q (F0 m 370 ls [])) : W p l e room_1 s m args below meth c H locs cells slots Q (F0 m 120 ls []) := by
  obtain ⟨hx, hb, hml, hts, hown, hK, hZ, hDS, hst⟩ := C
  have hi_X5 : ∀ w ∈ u_ws RX5 TX5 6, w ∈ wsL_law := by decide +kernel
  have hn := hok.hn
  have hnv := hok.hnv
  have hd := hok.hd
  have K120 : ∀ (n120 : Nat) (v : Nat) (x10 : Int32) (x11 : Int32) (x12 : Int32) (x13 : Int32) (fw120 : Nat → va_E) (H : Heap) (locs : List Loc), o.nv - v < n120 → v ≤ o.nv → x10 = sumN (fun u => aboutO o u 0) v → x11 = sumN (fun u => aboutO o u 1) v → x12 = sumN (fun u => aboutO o u 5) v → x13 = nI (bitP o v) → TB g Lw fw120 q8 7 o.nv fa (KF v 0) (aboutO o) → TB g Lw fw120 q9 o.n o.nv fb (KF v 0) (wtsO o) → WD g t lo b o o Lw fw120 (AA L0 s.heap.size) s.heap H locs → ∀ (ls : Array Slot), lv_has ls 32 [(14, .int (nI v)), (13, .int x13), (12, .int x12), (11, .int x11), (10, .int x10), (9, .ref q9), (8, .ref q8), (7, .int (nI o.nv)), (6, .int (nI o.n)), (5, .int (nI o.d)), (4, .int x4), (3, .int x3), (2, .ref b.sm), (1, .ref lo), (0, .ref bs)] → W p l e room_1 s m args below meth c H locs (cells + 60 * v) (slots + 360 * v) Q (F0 m 120 ls []) := by
    intro n120
    induction n120 with
    | zero => intros; omega
    | succ n120 ih120 =>
      intro v x10 x11 x12 x13 fw120 H locs hm120 hv e10 e11 e12 e13 T8 T9 hW ls hl
      refine lv_iload hx hb dL_law_120 (lv_at hl 0 rfl) ?_
      refine lv_iload hx hb dL_law_122 (lv_at hl 7 rfl) ?_
      refine lv_icmp_ge (tgt := 370) hx hb dL_law_124 (by decide) (fun c124 => ?_) (fun c124 => ?_)
      · skip
        have c124 : o.nv ≤ v := (nI_leI (a := o.nv) (b := v) (by omega) (by omega)).mp (show nI o.nv ≤ nI v from c124)
        rw [show v = o.nv by omega] at e10 e11 e12 e13
        rw [show x10 = countO o 3 from e10, show x11 = countO o 4 from e11, show x12 = countO o 5 from e12, e13] at hl
        exact W.widen (by omega) (by omega) (kk fw120 H locs ls (T8.weak (fun u i hu _ _ => ⟨Or.inl (by omega), rfl⟩)) (T9.weak (fun u i hu _ _ => ⟨Or.inl (by omega), rfl⟩)) (hW) (lv_sub hl [1, 2, 3, 4, 5, 6, 7, 8, 9, 10, 11, 12, 13, 14] rfl))
      · skip
        have c124 : ¬ o.nv ≤ v := fun h => c124 ((nI_leI (a := o.nv) (b := v) (by omega) (by omega)).mpr h)
        refine lv_iconst (v := 0) hx hb dL_law_127 (by decide) ?_
        refine lv_istore (lv' := [(15, .int 0), (14, .int (nI v)), (13, .int x13), (12, .int x12), (11, .int x11), (10, .int x10), (9, .ref q9), (8, .ref q8), (7, .int (nI o.nv)), (6, .int (nI o.n)), (5, .int (nI o.d)), (4, .int x4), (3, .int x3), (2, .ref b.sm), (1, .ref lo), (0, .ref bs)]) hx hb dL_law_128 hl (by decide) rfl (fun ls hl => ?_)
        have K130 : ∀ (n130 : Nat) (k : Nat) (fw130 : Nat → va_E) (H : Heap) (locs : List Loc), 7 - k < n130 → k ≤ 7 → TB g Lw fw130 q8 7 o.nv fa (KF v k) (aboutO o) → TB g Lw fw130 q9 o.n o.nv fb (KF v 0) (wtsO o) → WD g t lo b o o Lw fw130 (AA L0 s.heap.size) s.heap H locs → ∀ (ls : Array Slot), lv_has ls 32 [(15, .int (nI k)), (14, .int (nI v)), (13, .int x13), (12, .int x12), (11, .int x11), (10, .int x10), (9, .ref q9), (8, .ref q8), (7, .int (nI o.nv)), (6, .int (nI o.n)), (5, .int (nI o.d)), (4, .int x4), (3, .int x3), (2, .ref b.sm), (1, .ref lo), (0, .ref bs)] → W p l e room_1 s m args below meth c H locs (cells + 60 * v + 2 * k) (slots + 360 * v + 12 * k) Q (F0 m 130 ls []) := by
          intro n130
          induction n130 with
          | zero => intros; omega
          | succ n130 ih130 =>
            intro k fw130 H locs hm130 hk T8 T9 hW ls hl
            refine lv_iload hx hb dL_law_130 (lv_at hl 0 rfl) ?_
            refine lv_bipush (v := 7) hx hb dL_law_132 (by decide) ?_
            refine lv_icmp_ge (tgt := 159) hx hb dL_law_134 (by decide) (fun c134 => ?_) (fun c134 => ?_)
            · skip
              have c134 : 7 ≤ k := (nI_leI (a := 7) (b := k) (by omega) (by omega)).mp (show nI 7 ≤ nI k from c134)
              obtain rfl : k = 7 := by omega
              refine lv_iconst (v := 0) hx hb dL_law_159 (by decide) ?_
              refine lv_istore (lv' := [(15, .int 0), (14, .int (nI v)), (13, .int x13), (12, .int x12), (11, .int x11), (10, .int x10), (9, .ref q9), (8, .ref q8), (7, .int (nI o.nv)), (6, .int (nI o.n)), (5, .int (nI o.d)), (4, .int x4), (3, .int x3), (2, .ref b.sm), (1, .ref lo), (0, .ref bs)]) hx hb dL_law_160 hl (by decide) rfl (fun ls hl => ?_)
              refine lv_iconst (v := 0) hx hb dL_law_162 (by decide) ?_
              refine lv_istore (lv' := [(16, .int 0), (15, .int 0), (14, .int (nI v)), (13, .int x13), (12, .int x12), (11, .int x11), (10, .int x10), (9, .ref q9), (8, .ref q8), (7, .int (nI o.nv)), (6, .int (nI o.n)), (5, .int (nI o.d)), (4, .int x4), (3, .int x3), (2, .ref b.sm), (1, .ref lo), (0, .ref bs)]) hx hb dL_law_163 hl (by decide) rfl (fun ls hl => ?_)
              refine lv_iconst (v := 0) hx hb dL_law_165 (by decide) ?_
              refine lv_istore (lv' := [(17, .int 0), (16, .int 0), (15, .int 0), (14, .int (nI v)), (13, .int x13), (12, .int x12), (11, .int x11), (10, .int x10), (9, .ref q9), (8, .ref q8), (7, .int (nI o.nv)), (6, .int (nI o.n)), (5, .int (nI o.d)), (4, .int x4), (3, .int x3), (2, .ref b.sm), (1, .ref lo), (0, .ref bs)]) hx hb dL_law_166 hl (by decide) rfl (fun ls hl => ?_)
              have K168 : ∀ (n168 : Nat) (j : Nat) (x16 : Int32) (x15 : Int32) (fw168 : Nat → va_E) (H : Heap) (locs : List Loc), o.n - j < n168 → j ≤ o.n → x16 = sumN (fun j => truth (sayB (o.kd j) (o.nu j) o.gl o.rn o.d) * wtsO o v j) j → x15 = sumN (wtsO o v) j → TB g Lw fw168 q8 7 o.nv fa (KF v 7) (aboutO o) → TB g Lw fw168 q9 o.n o.nv fb (KF v j) (wtsO o) → WD g t lo b o o Lw fw168 (AA L0 s.heap.size) s.heap H locs → ∀ (ls : Array Slot), lv_has ls 32 [(17, .int (nI j)), (16, .int x16), (15, .int x15), (14, .int (nI v)), (13, .int x13), (12, .int x12), (11, .int x11), (10, .int x10), (9, .ref q9), (8, .ref q8), (7, .int (nI o.nv)), (6, .int (nI o.n)), (5, .int (nI o.d)), (4, .int x4), (3, .int x3), (2, .ref b.sm), (1, .ref lo), (0, .ref bs)] → W p l e room_1 s m args below meth c H locs (cells + 60 * v + 14 + 4 * j) (slots + 360 * v + 84 + 24 * j) Q (F0 m 168 ls []) := by
                intro n168
                induction n168 with
                | zero => intros; omega
                | succ n168 ih168 =>
                  intro j x16 x15 fw168 H locs hm168 hj hlean hall T8 T9 hW ls hl
                  refine lv_iload hx hb dL_law_168 (lv_at hl 0 rfl) ?_
                  refine lv_iload hx hb dL_law_170 (lv_at hl 11 rfl) ?_
                  refine lv_icmp_ge (tgt := 250) hx hb dL_law_172 (by decide) (fun c172 => ?_) (fun c172 => ?_)
                  · skip
                    have c172 : o.n ≤ j := (nI_leI (a := o.n) (b := j) (by omega) (by omega)).mp (show nI o.n ≤ nI j from c172)
                    rw [show j = o.n by omega] at hall hlean
                    rw [show x15 = aboutO o v 3 from hall, show x16 = aboutO o v 6 from hlean.trans (lead_O hn v)] at hl
                    have hb9 := ab_b hok (by omega) (show v < 6 by omega)
                    refine lv_aload hx hb dL_law_250 (lv_at hl 9 rfl) ?_
                    refine lv_iload hx hb dL_law_252 (lv_at hl 3 rfl) ?_
                    refine w_tref hx hb hK hW T8 (u := v) rfl (by omega) (by omega) dL_law_254 ?_
                    refine lv_astore (lv' := [(17, .ref (fa v)), (16, .int (aboutO o v 6)), (15, .int (aboutO o v 3)), (14, .int (nI v)), (13, .int x13), (12, .int x12), (11, .int x11), (10, .int x10), (9, .ref q9), (8, .ref q8), (7, .int (nI o.nv)), (6, .int (nI o.n)), (5, .int (nI o.d)), (4, .int x4), (3, .int x3), (2, .ref b.sm), (1, .ref lo), (0, .ref bs)]) hx hb dL_law_255 hl (by decide) rfl (fun ls hl => ?_)
                    refine lv_iload hx hb dL_law_257 (lv_at hl 7 rfl) ?_
                    refine lv_aload hx hb dL_law_259 (lv_at hl 0 rfl) ?_
                    refine lv_iconst (v := 0) hx hb dL_law_261 (by decide) ?_
                    refine w_tld hx hb hK hW T8 (u := v) (j := 0) (by omega) rfl (by omega) (by omega) (Or.inr ⟨rfl, by omega⟩) dL_law_262 ?_
                    refine lv_iadd hx hb dL_law_263 ?_
                    refine lv_topi (fun v263 ev263 => ?_)
                    refine lv_istore (lv' := [(10, .int v263), (17, .ref (fa v)), (16, .int (aboutO o v 6)), (15, .int (aboutO o v 3)), (14, .int (nI v)), (13, .int x13), (12, .int x12), (11, .int x11), (9, .ref q9), (8, .ref q8), (7, .int (nI o.nv)), (6, .int (nI o.n)), (5, .int (nI o.d)), (4, .int x4), (3, .int x3), (2, .ref b.sm), (1, .ref lo), (0, .ref bs)]) hx hb dL_law_264 hl (by decide) rfl (fun ls hl => ?_)
                    refine lv_iload hx hb dL_law_266 (lv_at hl 7 rfl) ?_
                    refine lv_aload hx hb dL_law_268 (lv_at hl 1 rfl) ?_
                    refine lv_iconst (v := 1) hx hb dL_law_270 (by decide) ?_
                    refine w_tld hx hb hK hW T8 (u := v) (j := 1) (by omega) rfl (by omega) (by omega) (Or.inr ⟨rfl, by omega⟩) dL_law_271 ?_
                    refine lv_iadd hx hb dL_law_272 ?_
                    refine lv_topi (fun v272 ev272 => ?_)
                    refine lv_istore (lv' := [(11, .int v272), (10, .int v263), (17, .ref (fa v)), (16, .int (aboutO o v 6)), (15, .int (aboutO o v 3)), (14, .int (nI v)), (13, .int x13), (12, .int x12), (9, .ref q9), (8, .ref q8), (7, .int (nI o.nv)), (6, .int (nI o.n)), (5, .int (nI o.d)), (4, .int x4), (3, .int x3), (2, .ref b.sm), (1, .ref lo), (0, .ref bs)]) hx hb dL_law_273 hl (by decide) rfl (fun ls hl => ?_)
                    refine lv_iload hx hb dL_law_275 (lv_at hl 7 rfl) ?_
                    refine lv_aload hx hb dL_law_277 (lv_at hl 2 rfl) ?_
                    refine lv_iconst (v := 5) hx hb dL_law_279 (by decide) ?_
                    refine w_tld hx hb hK hW T8 (u := v) (j := 5) (by omega) rfl (by omega) (by omega) (Or.inr ⟨rfl, by omega⟩) dL_law_280 ?_
                    refine lv_iadd hx hb dL_law_281 ?_
                    refine lv_topi (fun v281 ev281 => ?_)
                    refine lv_istore (lv' := [(12, .int v281), (11, .int v272), (10, .int v263), (17, .ref (fa v)), (16, .int (aboutO o v 6)), (15, .int (aboutO o v 3)), (14, .int (nI v)), (13, .int x13), (9, .ref q9), (8, .ref q8), (7, .int (nI o.nv)), (6, .int (nI o.n)), (5, .int (nI o.d)), (4, .int x4), (3, .int x3), (2, .ref b.sm), (1, .ref lo), (0, .ref bs)]) hx hb dL_law_282 hl (by decide) rfl (fun ls hl => ?_)
                    refine lv_iload hx hb dL_law_284 (lv_at hl 7 rfl) ?_
                    refine lv_iconst (v := 1) hx hb dL_law_286 (by decide) ?_
                    refine lv_aload hx hb dL_law_287 (lv_at hl 3 rfl) ?_
                    refine lv_iconst (v := 4) hx hb dL_law_289 (by decide) ?_
                    refine w_tld hx hb hK hW T8 (u := v) (j := 4) (by omega) rfl (by omega) (by omega) (Or.inr ⟨rfl, by omega⟩) dL_law_290 ?_
                    refine lv_ishl hx hb dL_law_291 ?_
                    refine lv_topi (fun v291 ev291 => ?_)
                    refine lv_ior hx hb dL_law_292 ?_
                    refine lv_topi (fun v292 ev292 => ?_)
                    refine lv_istore (lv' := [(13, .int v292), (12, .int v281), (11, .int v272), (10, .int v263), (17, .ref (fa v)), (16, .int (aboutO o v 6)), (15, .int (aboutO o v 3)), (14, .int (nI v)), (9, .ref q9), (8, .ref q8), (7, .int (nI o.nv)), (6, .int (nI o.n)), (5, .int (nI o.d)), (4, .int x4), (3, .int x3), (2, .ref b.sm), (1, .ref lo), (0, .ref bs)]) hx hb dL_law_293 hl (by decide) rfl (fun ls hl => ?_)
                    refine lv_aload hx hb dL_law_295 (lv_at hl 4 rfl) ?_
                    refine lv_iconst (v := 3) hx hb dL_law_297 (by decide) ?_
                    refine w_tld hx hb hK hW T8 (u := v) (j := 3) (by omega) rfl (by omega) (by omega) (Or.inr ⟨rfl, by omega⟩) dL_law_298 ?_
                    refine lv_iload hx hb dL_law_299 (lv_at hl 6 rfl) ?_
                    refine lv_icmp_ne (tgt := 362) hx hb dL_law_301 (by decide) (fun h => absurd rfl h) (fun _ => ?_)
                    refine lv_aload hx hb dL_law_304 (lv_at hl 4 rfl) ?_
                    refine lv_bipush (v := 6) hx hb dL_law_306 (by decide) ?_
                    refine w_tld hx hb hK hW T8 (u := v) (j := 6) (by omega) rfl (by omega) (by omega) (Or.inr ⟨rfl, by omega⟩) dL_law_308 ?_
                    refine lv_iload hx hb dL_law_309 (lv_at hl 5 rfl) ?_
                    refine lv_icmp_ne (tgt := 362) hx hb dL_law_311 (by decide) (fun h => absurd rfl h) (fun _ => ?_)
                    refine lv_aload hx hb dL_law_314 (lv_at hl 4 rfl) ?_
                    refine lv_iconst (v := 5) hx hb dL_law_316 (by decide) ?_
                    refine w_tld hx hb hK hW T8 (u := v) (j := 5) (by omega) rfl (by omega) (by omega) (Or.inr ⟨rfl, by omega⟩) dL_law_317 ?_
                    refine lv_iload hx hb dL_law_318 (lv_at hl 5 rfl) ?_
                    refine r_gt01 hx hb dL_law_320 dL_law_323 dL_law_324 dL_law_327 ?_
                    rw [ab5 o v]
                    refine lv_icmp_ne (tgt := 362) hx hb dL_law_328 (by decide) (fun h => absurd rfl h) (fun _ => ?_)
                    refine lv_aload hx hb dL_law_331 (lv_at hl 4 rfl) ?_
                    refine lv_iconst (v := 2) hx hb dL_law_333 (by decide) ?_
                    refine w_tld hx hb hK hW T8 (u := v) (j := 2) (by omega) rfl (by omega) (by omega) (Or.inr ⟨rfl, by omega⟩) dL_law_334 ?_
                    refine lv_aload hx hb dL_law_335 (lv_at hl 4 rfl) ?_
                    refine lv_iconst (v := 0) hx hb dL_law_337 (by decide) ?_
                    refine w_tld hx hb hK hW T8 (u := v) (j := 0) (by omega) rfl (by omega) (by omega) (Or.inr ⟨rfl, by omega⟩) dL_law_338 ?_
                    rw [ab2 hok (by omega) (show v < 6 by omega), ab0 hok (by omega) (show v < 6 by omega)]
                    refine lv_icmp_gt (tgt := 362) hx hb dL_law_339 (by decide) (fun c339 => by exfalso; have c339 := (nI_ltI (a := pO o v) (b := rO o v) (by omega) (by omega)).mp (show nI (pO o v) < nI (rO o v) from c339); omega) (fun c339 => ?_)
                    have c339 : ¬ pO o v < rO o v := fun h => c339 ((nI_ltI (a := pO o v) (b := rO o v) (by omega) (by omega)).mpr h)
                    refine lv_aload hx hb dL_law_342 (lv_at hl 4 rfl) ?_
                    refine lv_iconst (v := 1) hx hb dL_law_344 (by decide) ?_
                    refine w_tld hx hb hK hW T8 (u := v) (j := 1) (by omega) rfl (by omega) (by omega) (Or.inr ⟨rfl, by omega⟩) dL_law_345 ?_
                    rw [ab1 hok (by omega) (show v < 6 by omega)]
                    refine lv_if_lt (tgt := 362) hx hb dL_law_346 (by decide) (fun c346 => by exfalso; have c346 := (nI_ltI (a := cO o v) (b := 0) (by omega) (by omega)).mp (show nI (cO o v) < nI 0 from c346); omega) (fun c346 => ?_)
                    have c346 : ¬ cO o v < 0 := fun h => c346 ((nI_ltI (a := cO o v) (b := 0) (by omega) (by omega)).mpr h)
                    refine lv_aload_n hx hb dL_law_349 rfl (lv_at hl 16 rfl) ?_
                    refine lv_aload hx hb dL_law_350 (lv_at hl 4 rfl) ?_
                    refine lv_iconst (v := 4) hx hb dL_law_352 (by decide) ?_
                    refine w_tld hx hb hK hW T8 (u := v) (j := 4) (by omega) rfl (by omega) (by omega) (Or.inr ⟨rfl, by omega⟩) dL_law_353 ?_
                    refine u_at ⟨hx, hb, hml, hown, hts⟩ hst hK hZ hW hok (by omega) (pl := aboutO o v 4) ⟨v, by omega, rfl⟩ (cwV 1 hts gL_law_X4_at rfl rfl rfl (by decide +kernel) ⟨Nat.le_of_ble_eq_true rfl, Nat.le_of_ble_eq_true rfl⟩) hl.1 (Nat.le_of_ble_eq_true rfl) dL_law_354 ⟨by show _ ≤ 1200130; omega, by show _ ≤ 5501080; omega⟩ (fun r354 H locs hr354 hW => ?_)
                    obtain ⟨i9, hi9, rfl, hp9⟩ := hr354
                    rw [at_v hok (by omega) (show v < o.nv by omega) hi9 hp9]
                    refine lv_iload hx hb dL_law_357 (lv_at hl 7 rfl) ?_
                    refine lv_icmp_eq (tgt := 364) hx hb dL_law_359 (by decide) (fun _ => ?_) (fun h => absurd rfl h)
                    refine lv_iinc (v := nI (v + 1)) (lv' := [(14, .int (nI (v + 1))), (13, .int v292), (12, .int v281), (11, .int v272), (10, .int v263), (17, .ref (fa v)), (16, .int (aboutO o v 6)), (15, .int (aboutO o v 3)), (9, .ref q9), (8, .ref q8), (7, .int (nI o.nv)), (6, .int (nI o.n)), (5, .int (nI o.d)), (4, .int x4), (3, .int x3), (2, .ref b.sm), (1, .ref lo), (0, .ref bs)]) hx hb dL_law_364 hl (k := 7) rfl (nI_1 _) (by decide) rfl (fun ls hl => ?_)
                    refine lv_goto (tgt := 120) hx hb dL_law_367 (by decide) ?_
                    refine W.widen (by omega) (by omega) (ih120 (v + 1) v263 v272 v281 v292 fw168 H locs (by omega) (by omega) (sumN_e (w := fun u => aboutO o u 0) e10 rfl ev263) (sumN_e (w := fun u => aboutO o u 1) e11 rfl ev272) (sumN_e (w := fun u => aboutO o u 5) e12 rfl ev281) (by rw [ev292, ev291, e13]; exact plc_s hok (by omega) (by omega)) (T8.weak (fun u i _ hi h => ⟨KF_nx h hi, rfl⟩)) (T9.weak (fun u i _ hi h => ⟨KF_nx h (by omega), rfl⟩)) (hW) ls (lv_sub hl [0, 1, 2, 3, 4, 8, 9, 10, 11, 12, 13, 14, 15, 16, 17] rfl))
                  · skip
                    have c172 : ¬ o.n ≤ j := fun h => c172 ((nI_leI (a := o.n) (b := j) (by omega) (by omega)).mpr h)
                    refine lv_aload_n hx hb dL_law_175 rfl (lv_at hl 16 rfl) ?_
                    refine lv_iload hx hb dL_law_176 (lv_at hl 3 rfl) ?_
                    refine lv_iload hx hb dL_law_178 (lv_at hl 0 rfl) ?_
                    refine u_weight ⟨hx, hb, hml, hown, hts⟩ hst hK hZ hW hok (by omega) (u := v) (j := j) (by omega) (by omega) (cwV 2 hts gL_law_X4_weight rfl rfl rfl (by decide +kernel) ⟨Nat.le_of_ble_eq_true rfl, Nat.le_of_ble_eq_true rfl⟩) hl.1 (Nat.le_of_ble_eq_true rfl) dL_law_180 ⟨by show _ ≤ 1200130; omega, by show _ ≤ 5501080; omega⟩ (fun H locs hW => ?_)
                    obtain ⟨hw9, hw8⟩ := hok.wn (v := v) (j := j) (by omega) (by omega)
                    rw [hw9]
                    refine lv_istore (lv' := [(18, .int (nI (wO o v j))), (17, .int (nI j)), (16, .int x16), (15, .int x15), (14, .int (nI v)), (13, .int x13), (12, .int x12), (11, .int x11), (10, .int x10), (9, .ref q9), (8, .ref q8), (7, .int (nI o.nv)), (6, .int (nI o.n)), (5, .int (nI o.d)), (4, .int x4), (3, .int x3), (2, .ref b.sm), (1, .ref lo), (0, .ref bs)]) hx hb dL_law_183 hl (by decide) rfl (fun ls hl => ?_)
                    refine lv_aload hx hb dL_law_185 (lv_at hl 9 rfl) ?_
                    refine lv_iload hx hb dL_law_187 (lv_at hl 4 rfl) ?_
                    refine w_tref hx hb hK hW T9 (u := v) rfl (by omega) (by omega) dL_law_189 ?_
                    refine lv_iload hx hb dL_law_190 (lv_at hl 1 rfl) ?_
                    refine lv_iload hx hb dL_law_192 (lv_at hl 0 rfl) ?_
                    refine w_tst hx hb hK hW T9 (u := v) (j := j) (by omega) rfl (by omega) (by omega) hw9.symm (K2 := KF v (j + 1)) (fun w i hw hi h => KF_s h) dL_law_194 (fun H locs fw194 hFN heN h9 hW => ?_)
                    replace T8 := T8.keep hFN heN (fun w hw => hD w v hw (by omega))
                    have T9 := h9
                    refine lv_iload hx hb dL_law_195 (lv_at hl 3 rfl) ?_
                    refine lv_iload hx hb dL_law_197 (lv_at hl 0 rfl) ?_
                    refine lv_iadd hx hb dL_law_199 ?_
                    refine lv_topi (fun v199 ev199 => ?_)
                    refine lv_istore (lv' := [(15, .int v199), (18, .int (nI (wO o v j))), (17, .int (nI j)), (16, .int x16), (14, .int (nI v)), (13, .int x13), (12, .int x12), (11, .int x11), (10, .int x10), (9, .ref q9), (8, .ref q8), (7, .int (nI o.nv)), (6, .int (nI o.n)), (5, .int (nI o.d)), (4, .int x4), (3, .int x3), (2, .ref b.sm), (1, .ref lo), (0, .ref bs)]) hx hb dL_law_200 hl (by decide) rfl (fun ls hl => ?_)
                    refine lv_iload hx hb dL_law_202 (lv_at hl 3 rfl) ?_
                    refine lv_aload_n hx hb dL_law_204 rfl (lv_at hl 17 rfl) ?_
                    refine lv_iload hx hb dL_law_205 (lv_at hl 2 rfl) ?_
                    refine lv_iload hx hb dL_law_207 (lv_at hl 13 rfl) ?_
                    refine lv_sipush (v := 924) hx hb dL_law_209 (by decide) ?_
                    refine lv_irem hx hb dL_law_212 (by decide) ?_
                    refine lv_topi (fun v212 ev212 => ?_)
                    rw [show v212 = nI (o.d % 924) from (ev212.trans (pk_rem (a := o.d) (d := 924) (by omega) (by decide) (by decide)))]
                    refine u_says ⟨hx, hb, hml, hown, hts⟩ hst hK hZ hW hok (by omega) (j := j) (k := (o.d % 924)) (by omega) (by omega) (cwV 2 hts gL_law_X4_says rfl rfl rfl (by decide +kernel) ⟨Nat.le_of_ble_eq_true rfl, Nat.le_of_ble_eq_true rfl⟩) hl.1 (Nat.le_of_ble_eq_true rfl) dL_law_213 ⟨by show _ ≤ 1200130; omega, by show _ ≤ 5501080; omega⟩ (fun H locs hW => ?_)
                    rw [say_924 (by omega)]
                    refine r_216 hx hb hl (k := 1) rfl ?_
                    refine lv_topi (fun v216 ev216 => ?_)
                    refine lv_iadd hx hb dL_law_227 ?_
                    refine lv_topi (fun v227 ev227 => ?_)
                    refine lv_istore (lv' := [(16, .int v227), (15, .int v199), (18, .int (nI (wO o v j))), (17, .int (nI j)), (14, .int (nI v)), (13, .int x13), (12, .int x12), (11, .int x11), (10, .int x10), (9, .ref q9), (8, .ref q8), (7, .int (nI o.nv)), (6, .int (nI o.n)), (5, .int (nI o.d)), (4, .int x4), (3, .int x3), (2, .ref b.sm), (1, .ref lo), (0, .ref bs)]) hx hb dL_law_228 hl (by decide) rfl (fun ls hl => ?_)
                    refine lv_iload hx hb dL_law_230 (lv_at hl 2 rfl) ?_
                    refine lv_if_lt (tgt := 242) hx hb dL_law_232 (by decide) (fun c232 => by exfalso; have c232 := (nI_ltI (a := wO o v j) (b := 0) (by omega) (by omega)).mp (show nI (wO o v j) < nI 0 from c232); omega) (fun c232 => ?_)
                    have c232 : ¬ wO o v j < 0 := fun h => c232 ((nI_ltI (a := wO o v j) (b := 0) (by omega) (by omega)).mpr h)
                    refine lv_iload hx hb dL_law_235 (lv_at hl 2 rfl) ?_
                    refine lv_bipush (v := 100) hx hb dL_law_237 (by decide) ?_
                    refine lv_icmp_le (tgt := 244) hx hb dL_law_239 (by decide) (fun c239 => ?_) (fun c239 => by exfalso; exact c239 ((nI_leI (a := (wO o v j)) (b := 100) (by omega) (by omega)).mpr (by omega)))
                    have c239 : wO o v j ≤ 100 := (nI_leI (a := wO o v j) (b := 100) (by omega) (by omega)).mp (show nI (wO o v j) ≤ nI 100 from c239)
                    refine lv_iinc (v := nI (j + 1)) (lv' := [(17, .int (nI (j + 1))), (16, .int v227), (15, .int v199), (18, .int (nI (wO o v j))), (14, .int (nI v)), (13, .int x13), (12, .int x12), (11, .int x11), (10, .int x10), (9, .ref q9), (8, .ref q8), (7, .int (nI o.nv)), (6, .int (nI o.n)), (5, .int (nI o.d)), (4, .int x4), (3, .int x3), (2, .ref b.sm), (1, .ref lo), (0, .ref bs)]) hx hb dL_law_244 hl (k := 3) rfl (nI_1 _) (by decide) rfl (fun ls hl => ?_)
                    refine lv_goto (tgt := 168) hx hb dL_law_247 (by decide) ?_
                    refine W.widen (by omega) (by omega) (ih168 (j + 1) v227 v199 fw194 H locs (by omega) (by omega) (sumN_e (w := fun j => truth (sayB (o.kd j) (o.nu j) o.gl o.rn o.d) * wtsO o v j) hlean (by rw [ev216, ← hw9]) ev227) (sumN_e (w := wtsO o v) hall hw9.symm ev199) (T8) (T9) (hW) ls (lv_sub hl [0, 1, 2, 4, 5, 6, 7, 8, 9, 10, 11, 12, 13, 14, 15, 16, 17, 18] rfl))
              refine W.widen (by omega) (by omega) (K168 _ 0 0 0 fw130 H locs (Nat.lt_succ_self _) (by omega) (rfl) (rfl) (T8) (T9) (hW) ls (lv_sub hl [0, 1, 2, 3, 4, 5, 6, 7, 8, 9, 10, 11, 12, 13, 14, 15, 16, 17] rfl))
            · skip
              have c134 : ¬ 7 ≤ k := fun h => c134 ((nI_leI (a := 7) (b := k) (by omega) (by omega)).mpr h)
              refine lv_aload hx hb dL_law_137 (lv_at hl 7 rfl) ?_
              refine lv_iload hx hb dL_law_139 (lv_at hl 1 rfl) ?_
              refine w_tref hx hb hK hW T8 (u := v) rfl (by omega) (by omega) dL_law_141 ?_
              refine lv_iload hx hb dL_law_142 (lv_at hl 0 rfl) ?_
              refine lv_aload_n hx hb dL_law_144 rfl (lv_at hl 14 rfl) ?_
              refine lv_iload hx hb dL_law_145 (lv_at hl 1 rfl) ?_
              refine lv_iload hx hb dL_law_147 (lv_at hl 0 rfl) ?_
              refine u_about ⟨hx, hb, hml, hown, hts⟩ hst hK hZ hW hok (by omega) (u := v) (k := k) (by omega) (by omega) (cwV 2 hts gL_law_X4_about rfl rfl rfl (by decide +kernel) ⟨Nat.le_of_ble_eq_true rfl, Nat.le_of_ble_eq_true rfl⟩) hl.1 (Nat.le_of_ble_eq_true rfl) dL_law_149 ⟨by show _ ≤ 1200130; omega, by show _ ≤ 5501080; omega⟩ (fun H locs hW => ?_)
              refine w_tst hx hb hK hW T8 (u := v) (j := k) (by omega) rfl (by omega) (by omega) rfl (K2 := KF v (k + 1)) (fun w i hw hi h => KF_s h) dL_law_152 (fun H locs fw152 hFN heN h9 hW => ?_)
              replace T9 := T9.keep hFN heN (fun w hw => hD v w (by omega) hw |> fun z e => z e.symm)
              have T8 := h9
              refine lv_iinc (v := nI (k + 1)) (lv' := [(15, .int (nI (k + 1))), (14, .int (nI v)), (13, .int x13), (12, .int x12), (11, .int x11), (10, .int x10), (9, .ref q9), (8, .ref q8), (7, .int (nI o.nv)), (6, .int (nI o.n)), (5, .int (nI o.d)), (4, .int x4), (3, .int x3), (2, .ref b.sm), (1, .ref lo), (0, .ref bs)]) hx hb dL_law_153 hl (k := 0) rfl (nI_1 _) (by decide) rfl (fun ls hl => ?_)
              refine lv_goto (tgt := 130) hx hb dL_law_156 (by decide) ?_
              refine W.widen (by omega) (by omega) (ih130 (k + 1) fw152 H locs (by omega) (by omega) (T8) (T9) (hW) ls (lv_sub hl [0, 1, 2, 3, 4, 5, 6, 7, 8, 9, 10, 11, 12, 13, 14, 15] rfl))
        refine W.widen (by omega) (by omega) (K130 _ 0 fw120 H locs (Nat.lt_succ_self _) (by omega) (T8) (T9) (hW) ls (lv_sub hl [0, 1, 2, 3, 4, 5, 6, 7, 8, 9, 10, 11, 12, 13, 14, 15] rfl))
  refine W.widen (by omega) (by omega) (K120 _ 0 0 0 0 0 fw H locs (Nat.lt_succ_self _) (by omega) (rfl) (rfl) (rfl) (rfl) (T8.weak (fun u i _ _ h => (KF_0 h).elim)) (T9.weak (fun u i _ _ h => (KF_0 h).elim)) (hW) ls (lv_sub hl [0, 1, 2, 3, 4, 5, 6, 7, 8, 9, 10, 11, 12, 13, 14] rfl))
