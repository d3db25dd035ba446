/-! ===== what holds in the law's loop ===== -/
def LC (p : Program) (l : Launch) (s : State) (mi : MethodId) (args : Array Value) (c : Code) (b nS : Nat) (xs : Nat → Int32) (g : GG) (t : Nat) : Prop := p.tables.exec = Jvm.exec ∧ c.code = cL_law ∧ c.maxLocals = 9 ∧ s.vm.findClass RL = some mi.cls ∧ (∀ w ∈ wsL_law, w.before args s = true) ∧ KK g s ∧ ZZ [] s.heap.size s ∧ DS t [] s.heap.size s ∧ NC s ∧ va_X b nS xs s s.heap ∧ b < s.heap.size ∧ l.stackTraces = false ∧ nS ≤ 2048
abbrev lvB (i b lo mh oj : Nat) : List (Nat × Value) := [(4, .int (nI i)), (3, .ref oj), (2, .ref mh), (1, .ref lo), (0, .ref b)]
def Cont (p : Program) (l : Launch) (e : Env) (s : State) (mi : MethodId) (args : Array Value) (below : List Frame) (meth : Method) (c : Code) (Q : State → Prop) (g : GG) (t b : Nat) (a : LgA) (m : MdA) (i M d cells slots : Nat) : Prop := ∀ (L2 : List Nat) (f2 : Nat → va_E) (D2 : LgD) (E2 : MdD) (M2 : Nat) (H2 : Heap) (locs2 : List Loc) (ls2 : Array Slot), Sy a m g t L2 f2 D2 E2 M2 → L2.Nodup → PP g L2 f2 H2 → (∀ x ∈ L2, AA [] s.heap.size x) → va_S (AA [] s.heap.size) s.heap H2 locs2 → lv_has ls2 9 (lvB i b a.lo m.mh m.oj) → M2 ≤ M + 500 → D2.d ≤ d + 100 → W p l e room_1 s mi args below meth c H2 locs2 (cells + 300) (slots + 2000) Q (F0 mi 1266 ls2 [])
theorem LC.drawn {p : Program} {l : Launch} {s : State} {mi : MethodId} {args : Array Value} {c : Code} {b nS : Nat} {xs : Nat → Int32} {g : GG} {t : Nat} (C : LC p l s mi args c b nS xs g t) (d : Drawn) : LC p l (s.setDrawn d) mi args c b nS xs g t := by
  obtain ⟨hx, hb, hml, hown, hts, hK, hZ, hDS, hNC, hX, hbl, hst, hnS⟩ := C
  exact ⟨hx, hb, hml, hown, dr_words hts d, KK.same (s := s) (U := s.setDrawn d) rfl hK, ⟨vx_Zq.moved (u := s) (U := s.setDrawn d) (Vm.Alike.refl s.vm) hZ.1, vx_Zq.moved (u := s) (U := s.setDrawn d) (Vm.Alike.refl s.vm) hZ.2.1, fun q hq => (hZ.2.2 q hq).elim (fun z k => ⟨z, vk_R.same (u := s) (U := s.setDrawn d) rfl k⟩)⟩, ⟨va_Z.moved (u := s) (U := s.setDrawn d) (Vm.Alike.refl s.vm) hDS.1, va_T.moved (u := s) (U := s.setDrawn d) (Vm.Alike.refl s.vm) hDS.2⟩, NC.moved (s := s) (U := s.setDrawn d) (Vm.Alike.refl s.vm) hNC, hX, hbl, hst, hnS⟩
theorem cmp_0 {x y : Int64} (h : x = y) : lg_cmp x y = 0 := by
  subst h
  unfold lg_cmp
  rw [if_neg (by intro z; exact Int64.lt_irrefl z), if_pos rfl]
theorem fin_best {a : LgA} {m : MdA} {g : GG} {t : Nat} {L : List Nat} {f f2 : Nat → va_E} {D : LgD} {E : MdD} {M : Nat} (h : SyB a m.l g t L f D) (hm : MoB m g L f D E) (hA : AllM D.n M D.vs E.pt E.co E.ro E.wt) {b : Int32} (hp : PY_best m g f D E b f2) : (bestL (fun j => rightN (D.kd j) (D.nu j) D.gl D.rn 12) D.n).2 = b ∧ Sy a m g t L f2 D ((E.d2, 0, E.ht, E.h2, E.sd, E.pt, E.co, E.ro, E.wt, E.pt2, E.co2, E.ro2, E.wt2, E.w) : MdD) M := by
  obtain ⟨hb, e1, hF⟩ := hp
  refine ⟨(best_opt D.kd D.nu D.gl D.rn D.n).trans hb.symm, h.fr (f2 := f2) (fun z _ hz => hF z (fun y9 => hz ((fa_c (p := fun x => x ∈ m.l) (List.mem_of_getElem? (i := 0) rfl) fa_n) z y9))), ⟨hm.L_mh, e1, hm.L_mg, hF.get hm.f_mg (nm_c (nd_ne hm.nd 1 0 rfl rfl (by decide)) (List.not_mem_nil)), hm.L_mr, hF.get hm.f_mr (nm_c (nd_ne hm.nd 2 0 rfl rfl (by decide)) (List.not_mem_nil)), hm.L_mk, hF.get hm.f_mk (nm_c (nd_ne hm.nd 3 0 rfl rfl (by decide)) (List.not_mem_nil)), hm.L_mn, hF.get hm.f_mn (nm_c (nd_ne hm.nd 4 0 rfl rfl (by decide)) (List.not_mem_nil)), hm.L_ms, hF.get hm.f_ms (nm_c (nd_ne hm.nd 5 0 rfl rfl (by decide)) (List.not_mem_nil)), hm.L_nw, hF.get hm.f_nw (nm_c (nd_ne hm.nd 6 0 rfl rfl (by decide)) (List.not_mem_nil)), hm.L_np, hF.get hm.f_np (nm_c (nd_ne hm.nd 7 0 rfl rfl (by decide)) (List.not_mem_nil)), hm.L_nc, hF.get hm.f_nc (nm_c (nd_ne hm.nd 8 0 rfl rfl (by decide)) (List.not_mem_nil)), hm.L_nr, hF.get hm.f_nr (nm_c (nd_ne hm.nd 9 0 rfl rfl (by decide)) (List.not_mem_nil)), hm.L_nwt, hF.get hm.f_nwt (nm_c (nd_ne hm.nd 10 0 rfl rfl (by decide)) (List.not_mem_nil)), hm.L_ah, hF.get hm.f_ah (nm_c (nd_ne hm.nd 11 0 rfl rfl (by decide)) (List.not_mem_nil)), hm.L_ap, hF.get hm.f_ap (nm_c (nd_ne hm.nd 12 0 rfl rfl (by decide)) (List.not_mem_nil)), hm.L_ac, hF.get hm.f_ac (nm_c (nd_ne hm.nd 13 0 rfl rfl (by decide)) (List.not_mem_nil)), hm.L_ar, hF.get hm.f_ar (nm_c (nd_ne hm.nd 14 0 rfl rfl (by decide)) (List.not_mem_nil)), hm.L_awt, hF.get hm.f_awt (nm_c (nd_ne hm.nd 15 0 rfl rfl (by decide)) (List.not_mem_nil)), hm.L_oj, hF.get hm.f_oj (nm_c (nd_ne hm.nd 16 0 rfl rfl (by decide)) (List.not_mem_nil)), hm.nd⟩, hA⟩
theorem fin_mean {a : LgA} {m : MdA} {g : GG} {t : Nat} {L : List Nat} {f f2 : Nat → va_E} {D : LgD} {E : MdD} {M : Nat} (h : SyB a m.l g t L f D) (hm : MoB m g L f D E) (hA : AllM D.n M D.vs E.pt E.co E.ro E.wt) {b : UInt64} (hp : PY_mean m g f D E b f2) : meanD (sumN (fun v => (D.vs v).2.1) D.nv) D.nv b ∧ Sy a m g t L f2 D ((E.d2, 0, E.ht, E.h2, E.sd, E.pt, E.co, E.ro, E.wt, E.pt2, E.co2, E.ro2, E.wt2, E.w) : MdD) M := by
  obtain ⟨hb, e1, hF⟩ := hp
  refine ⟨?_, h.fr (f2 := f2) (fun z _ hz => hF z (fun y9 => hz ((fa_c (p := fun x => x ∈ m.l) (List.mem_of_getElem? (i := 0) rfl) fa_n) z y9))), ⟨hm.L_mh, e1, hm.L_mg, hF.get hm.f_mg (nm_c (nd_ne hm.nd 1 0 rfl rfl (by decide)) (List.not_mem_nil)), hm.L_mr, hF.get hm.f_mr (nm_c (nd_ne hm.nd 2 0 rfl rfl (by decide)) (List.not_mem_nil)), hm.L_mk, hF.get hm.f_mk (nm_c (nd_ne hm.nd 3 0 rfl rfl (by decide)) (List.not_mem_nil)), hm.L_mn, hF.get hm.f_mn (nm_c (nd_ne hm.nd 4 0 rfl rfl (by decide)) (List.not_mem_nil)), hm.L_ms, hF.get hm.f_ms (nm_c (nd_ne hm.nd 5 0 rfl rfl (by decide)) (List.not_mem_nil)), hm.L_nw, hF.get hm.f_nw (nm_c (nd_ne hm.nd 6 0 rfl rfl (by decide)) (List.not_mem_nil)), hm.L_np, hF.get hm.f_np (nm_c (nd_ne hm.nd 7 0 rfl rfl (by decide)) (List.not_mem_nil)), hm.L_nc, hF.get hm.f_nc (nm_c (nd_ne hm.nd 8 0 rfl rfl (by decide)) (List.not_mem_nil)), hm.L_nr, hF.get hm.f_nr (nm_c (nd_ne hm.nd 9 0 rfl rfl (by decide)) (List.not_mem_nil)), hm.L_nwt, hF.get hm.f_nwt (nm_c (nd_ne hm.nd 10 0 rfl rfl (by decide)) (List.not_mem_nil)), hm.L_ah, hF.get hm.f_ah (nm_c (nd_ne hm.nd 11 0 rfl rfl (by decide)) (List.not_mem_nil)), hm.L_ap, hF.get hm.f_ap (nm_c (nd_ne hm.nd 12 0 rfl rfl (by decide)) (List.not_mem_nil)), hm.L_ac, hF.get hm.f_ac (nm_c (nd_ne hm.nd 13 0 rfl rfl (by decide)) (List.not_mem_nil)), hm.L_ar, hF.get hm.f_ar (nm_c (nd_ne hm.nd 14 0 rfl rfl (by decide)) (List.not_mem_nil)), hm.L_awt, hF.get hm.f_awt (nm_c (nd_ne hm.nd 15 0 rfl rfl (by decide)) (List.not_mem_nil)), hm.L_oj, hF.get hm.f_oj (nm_c (nd_ne hm.nd 16 0 rfl rfl (by decide)) (List.not_mem_nil)), hm.nd⟩, hA⟩
  rw [mean_eq hA h.hnv]
  exact hb
theorem mid_digest {a : LgA} {m : MdA} {g : GG} {t : Nat} {L : List Nat} {f f1 : Nat → va_E} {D : LgD} {E : MdD} {sx : Nat → Int32} (h : SyB a m.l g t L f D) (hm : MoB m g L f D E) (hsx : sx = D.sa ∨ sx = saS D.kd D.nu D.gl D.rn D.n D.d D.sa) (e1 : f1 a.sy = eI g 8 sx) (hF : Fr f f1 [a.sy]) : SyB a m.l g t L f1 ((D.d, D.n, D.nv, D.ed, D.ts, D.mo, D.gl, D.rn, D.kd, D.nu, sx, D.vs, D.tvs, D.so, D.el) : LgD) ∧ MoB m g L f1 D E := by
  have hs2 : ∀ j, D.n ≤ j → sx j = 0 := fun j hj => by
    rcases hsx with rfl | rfl
    · exact h.hsa j hj
    · exact (saS_0 hj).trans (h.hsa j hj)
  exact ⟨h.psy hs2 e1 hF, hm.fr (fun _ z => z) (fun x hx => hF x (nm_c (fun e => h.m_sy (e ▸ hx)) List.not_mem_nil))⟩
theorem fin_digest {a : LgA} {m : MdA} {g : GG} {t : Nat} {L0 L : List Nat} {f f1 f2 : Nat → va_E} {D : LgD} {E : MdD} {M : Nat} {sx : Nat → Int32} (h0 : SyB a m.l g t L0 f D) (h : SyB a m.l g t L f1 ((D.d, D.n, D.nv, D.ed, D.ts, D.mo, D.gl, D.rn, D.kd, D.nu, sx, D.vs, D.tvs, D.so, D.el) : LgD)) (hm : MoB m g L f1 D E) (hA : AllM D.n M D.vs E.pt E.co E.ro E.wt) {r b : Int64} (hr : r = digL (fun k => countL (saS D.kd D.nu D.gl D.rn D.n D.d D.sa) D.rn D.vs D.n D.nv D.d k) D.gl D.rn (fun z k => toldL D.kd D.nu D.gl D.rn D.vs D.nv z k) D.n (fun v k => aboutL (saS D.kd D.nu D.gl D.rn D.n D.d D.sa) D.vs D.n D.nv v k) (fun v k => (D.vs v).2.2.2.2 k) D.nv) (hp : PY_digest m g f1 D E b f2) : r = b ∧ ∃ E2, Sy a m g t L f2 ((D.d, D.n, D.nv, D.ed, D.ts, D.mo, D.gl, D.rn, D.kd, D.nu, sx, D.vs, D.tvs, D.so, D.el) : LgD) E2 M := by
  obtain ⟨hb, e1, ⟨sz, _, e2⟩, hF⟩ := hp
  refine ⟨?_, ((E.d2, 0, E.ht, E.h2, sz, E.pt, E.co, E.ro, E.wt, E.pt2, E.co2, E.ro2, E.wt2, E.w) : MdD), h.fr (f2 := f2) (fun z _ hz => hF z (fun y9 => hz ((fa_c (p := fun x => x ∈ m.l) (List.mem_of_getElem? (i := 0) rfl) (fa_c (p := fun x => x ∈ m.l) (List.mem_of_getElem? (i := 5) rfl) fa_n)) z y9))), ⟨hm.L_mh, e1, hm.L_mg, hF.get hm.f_mg (nm_c (nd_ne hm.nd 1 0 rfl rfl (by decide)) (nm_c (nd_ne hm.nd 1 5 rfl rfl (by decide)) (List.not_mem_nil))), hm.L_mr, hF.get hm.f_mr (nm_c (nd_ne hm.nd 2 0 rfl rfl (by decide)) (nm_c (nd_ne hm.nd 2 5 rfl rfl (by decide)) (List.not_mem_nil))), hm.L_mk, hF.get hm.f_mk (nm_c (nd_ne hm.nd 3 0 rfl rfl (by decide)) (nm_c (nd_ne hm.nd 3 5 rfl rfl (by decide)) (List.not_mem_nil))), hm.L_mn, hF.get hm.f_mn (nm_c (nd_ne hm.nd 4 0 rfl rfl (by decide)) (nm_c (nd_ne hm.nd 4 5 rfl rfl (by decide)) (List.not_mem_nil))), hm.L_ms, e2, hm.L_nw, hF.get hm.f_nw (nm_c (nd_ne hm.nd 6 0 rfl rfl (by decide)) (nm_c (nd_ne hm.nd 6 5 rfl rfl (by decide)) (List.not_mem_nil))), hm.L_np, hF.get hm.f_np (nm_c (nd_ne hm.nd 7 0 rfl rfl (by decide)) (nm_c (nd_ne hm.nd 7 5 rfl rfl (by decide)) (List.not_mem_nil))), hm.L_nc, hF.get hm.f_nc (nm_c (nd_ne hm.nd 8 0 rfl rfl (by decide)) (nm_c (nd_ne hm.nd 8 5 rfl rfl (by decide)) (List.not_mem_nil))), hm.L_nr, hF.get hm.f_nr (nm_c (nd_ne hm.nd 9 0 rfl rfl (by decide)) (nm_c (nd_ne hm.nd 9 5 rfl rfl (by decide)) (List.not_mem_nil))), hm.L_nwt, hF.get hm.f_nwt (nm_c (nd_ne hm.nd 10 0 rfl rfl (by decide)) (nm_c (nd_ne hm.nd 10 5 rfl rfl (by decide)) (List.not_mem_nil))), hm.L_ah, hF.get hm.f_ah (nm_c (nd_ne hm.nd 11 0 rfl rfl (by decide)) (nm_c (nd_ne hm.nd 11 5 rfl rfl (by decide)) (List.not_mem_nil))), hm.L_ap, hF.get hm.f_ap (nm_c (nd_ne hm.nd 12 0 rfl rfl (by decide)) (nm_c (nd_ne hm.nd 12 5 rfl rfl (by decide)) (List.not_mem_nil))), hm.L_ac, hF.get hm.f_ac (nm_c (nd_ne hm.nd 13 0 rfl rfl (by decide)) (nm_c (nd_ne hm.nd 13 5 rfl rfl (by decide)) (List.not_mem_nil))), hm.L_ar, hF.get hm.f_ar (nm_c (nd_ne hm.nd 14 0 rfl rfl (by decide)) (nm_c (nd_ne hm.nd 14 5 rfl rfl (by decide)) (List.not_mem_nil))), hm.L_awt, hF.get hm.f_awt (nm_c (nd_ne hm.nd 15 0 rfl rfl (by decide)) (nm_c (nd_ne hm.nd 15 5 rfl rfl (by decide)) (List.not_mem_nil))), hm.L_oj, hF.get hm.f_oj (nm_c (nd_ne hm.nd 16 0 rfl rfl (by decide)) (nm_c (nd_ne hm.nd 16 5 rfl rfl (by decide)) (List.not_mem_nil))), hm.nd⟩, hA⟩
  rw [hr, hb]
  exact digest_eq hA h0.hn h0.hnv h0.hsa
theorem nan_dec {b : UInt64} (h : isNaN64 b = true) : FP.Core.decode FP.Core.b64 b.toNat = .nan := by
  rw [isNaN64_iff] at h
  have e : b.toNat &&& 0x7fffffffffffffff = b.toNat % 2 ^ 63 := Nat.and_two_pow_sub_one_eq_mod b.toNat 63
  rw [e] at h
  have ht : FP.Core.b64.tails = 4503599627370496 := by decide
  have he : FP.Core.b64.exps = 2048 := by decide
  have hE : FP.Core.fieldE FP.Core.b64 b.toNat = FP.Core.b64.exps - 1 := by
    unfold FP.Core.fieldE
    rw [ht, he]
    omega
  have hT : ¬ FP.Core.fieldT FP.Core.b64 b.toNat = 0 := by
    unfold FP.Core.fieldT
    rw [ht]
    omega
  unfold FP.Core.decode
  rw [if_pos hE, if_neg hT]
theorem nan_cmp {b : UInt64} (h : isNaN64 b = true) : Op.cmpValue (FP.dcmp b b) .l ≠ 0 := by
  have e : FP.dcmp b b = none := by
    show FP.Core.order (FP.Core.decode FP.Core.b64 b.toNat) (FP.Core.decode FP.Core.b64 b.toNat) = none
    rw [nan_dec h]
    rfl
  rw [e]
  decide
theorem al_or {x y : UInt64} (h : alike64 x y = true) : x = y ∨ (isNaN64 x = true ∧ isNaN64 y = true) := by
  unfold alike64 at h
  rcases Bool.or_eq_true _ _ |>.mp h with h1 | h1
  · exact Or.inl (of_decide_eq_true h1)
  · exact Or.inr (Bool.and_eq_true _ _ |>.mp h1)
/-- two means of one sum: the law's compare -/
theorem mean_cmp {x : Int32} {n : Nat} {r b : UInt64} (h1 : meanD x n r) (h2 : meanD x n b) : r = b ∨ (Op.cmpValue (FP.dcmp r r) .l ≠ 0 ∧ Op.cmpValue (FP.dcmp b b) .l ≠ 0) := by
  rcases h1 with ⟨h0, rfl⟩ | ⟨h0, a1⟩
  · rcases h2 with ⟨_, rfl⟩ | ⟨h3, _⟩
    · exact Or.inl rfl
    · exact absurd h0 h3
  · rcases h2 with ⟨h3, _⟩ | ⟨_, a2⟩
    · exact absurd h3 h0
    · rcases al_or a1 with e1 | ⟨n1, nx⟩
      · rcases al_or a2 with e2 | ⟨n2, nx⟩
        · exact Or.inl (e1.trans e2.symm)
        · exact Or.inr ⟨nan_cmp (by rw [e1]; exact nx), nan_cmp n2⟩
      · rcases al_or a2 with e2 | ⟨n2, _⟩
        · exact Or.inr ⟨nan_cmp n1, nan_cmp (by rw [e2]; exact nx)⟩
        · exact Or.inr ⟨nan_cmp n1, nan_cmp n2⟩
theorem pj_setGlass {a : LgA} {m : MdA} {g : GG} {t : Nat} {L : List Nat} {f : Nat → va_E} {D : LgD} {E : MdD} {x : Int32} {y : Int32} (h : SyB a m.l g t L f D) (hm : MoB m g L f D E) : ∀ r f1, PX_setGlass a g L f D x y r f1 → f1 m.oj = eJ g 1 E.w := fun r f1 hp => by
  have hnv := h.hnv
  exact (hp.2 m.oj (nm_c (fun e9 => h.m_ga (e9 ▸ (List.mem_of_getElem? (i := 16) rfl))) List.not_mem_nil)).trans hm.f_oj
theorem xe_setGlass {D : LgD} {x : Int32} {y : Int32} : ∀ E, XC_setGlass D x y E → E = "java/lang/IndexOutOfBoundsException" ∨ E = "java/lang/IllegalArgumentException" := fun E hE => by
  rcases hE with ⟨h9, _⟩ | ⟨h9, _⟩
  · exact Or.inl h9
  · exact Or.inr (h9)
theorem pj_setRain {a : LgA} {m : MdA} {g : GG} {t : Nat} {L : List Nat} {f : Nat → va_E} {D : LgD} {E : MdD} {x : Int32} {bb : Bool} (h : SyB a m.l g t L f D) (hm : MoB m g L f D E) : ∀ r f1, PX_setRain a g L f D x bb r f1 → f1 m.oj = eJ g 1 E.w := fun r f1 hp => by
  have hnv := h.hnv
  exact (hp.2 m.oj (nm_c (fun e9 => h.m_ra (e9 ▸ (List.mem_of_getElem? (i := 16) rfl))) List.not_mem_nil)).trans hm.f_oj
theorem xe_setRain {D : LgD} {x : Int32} {bb : Bool} : ∀ E, XC_setRain D x bb E → E = "java/lang/IndexOutOfBoundsException" := fun E hE => by
  obtain ⟨h9, _⟩ := hE
  exact h9
theorem pj_sign {a : LgA} {m : MdA} {g : GG} {t : Nat} {L : List Nat} {f : Nat → va_E} {D : LgD} {E : MdD} {x : Int32} {y : Int32} (h : SyB a m.l g t L f D) (hm : MoB m g L f D E) (htL : t ∉ L) : ∀ r L1 f1, PX_sign a g L f D x y r L1 f1 → f1 m.oj = eJ g 1 E.w := fun r L1 f1 hp => by
  obtain ⟨_, _, _, _, q, ed2, el2, _, _, _, _, _, hF⟩ := hp
  refine (hF m.oj hm.L_oj (nm_c (fun e9 => h.m_al (e9 ▸ (List.mem_of_getElem? (i := 16) rfl))) (nm_c (fun e9 => ?_) List.not_mem_nil))).trans hm.f_oj
  rcases Nat.eq_zero_or_pos D.n with h9 | h9
  · exact htL (by rw [← h.h0 h9, ← e9]; exact hm.L_oj)
  · exact (h.m_so 0 h9).2 (e9 ▸ (List.mem_of_getElem? (i := 16) rfl))
theorem xe_sign {D : LgD} {x : Int32} {y : Int32} : ∀ E, XC_sign D x y E → E = "java/lang/IllegalArgumentException" ∨ E = "java/lang/IllegalStateException" := fun E hE => by
  rcases hE with ⟨h9, _⟩ | ⟨h9, _⟩
  · exact Or.inl h9
  · exact Or.inr (h9)
theorem pj_join {a : LgA} {m : MdA} {g : GG} {t : Nat} {L : List Nat} {f : Nat → va_E} {D : LgD} {E : MdD}  (h : SyB a m.l g t L f D) (hm : MoB m g L f D E) : ∀ r f1, PX_join a g L f D  r f1 → f1 m.oj = eJ g 1 E.w := fun r f1 hp => by
  have hnv := h.hnv
  exact (hp.2.2.2 m.oj (nm_c (fun e9 => h.m_rv (e9 ▸ (List.mem_of_getElem? (i := 16) rfl))) List.not_mem_nil)).trans hm.f_oj
theorem xe_join {D : LgD}  : ∀ E, XC_join D  E → E = "java/lang/IllegalStateException" := fun E hE => by
  obtain ⟨h9, _⟩ := hE
  exact h9
theorem pj_weigh {a : LgA} {m : MdA} {g : GG} {t : Nat} {L : List Nat} {f : Nat → va_E} {D : LgD} {E : MdD} {v : Int32} {x : Int32} {w : Int32} (h : SyB a m.l g t L f D) (hm : MoB m g L f D E) : ∀ r f1, PX_weigh a g L f D v x w r f1 → f1 m.oj = eJ g 1 E.w := fun r f1 hp => by
  have hnv := h.hnv
  obtain ⟨u, j, hu, _, _, _, _, _, _, hF⟩ := hp
  exact (hF m.oj (nm_c (fun e9 => (h.m_ad u (by omega)).2 (e9 ▸ (List.mem_of_getElem? (i := 16) rfl))) List.not_mem_nil)).trans hm.f_oj
theorem xe_weigh {D : LgD} {v : Int32} {x : Int32} {w : Int32} : ∀ E, XC_weigh D v x w E → E = "java/lang/IndexOutOfBoundsException" ∨ E = "java/lang/IllegalArgumentException" := fun E hE => by
  rcases hE with ⟨h9, _⟩ | ⟨h9, _⟩
  · exact Or.inl h9
  · exact Or.inr (h9)
theorem pj_share {a : LgA} {m : MdA} {g : GG} {t : Nat} {L : List Nat} {f : Nat → va_E} {D : LgD} {E : MdD} {v : Int32} {x : Int32} (h : SyB a m.l g t L f D) (hm : MoB m g L f D E) : ∀ r f1, PX_share a g L f D v x r f1 → f1 m.oj = eJ g 1 E.w := fun r f1 hp => by
  have hnv := h.hnv
  obtain ⟨u, w, hu, _, hw, _, _, _, _, _, hF⟩ := hp
  exact (hF m.oj (nm_c (fun e9 => (h.m_ad u (by omega)).1 (e9 ▸ (List.mem_of_getElem? (i := 16) rfl))) (nm_c (fun e9 => (h.m_ad u (by omega)).2 (e9 ▸ (List.mem_of_getElem? (i := 16) rfl))) (nm_c (fun e9 => (h.m_ad w (by omega)).1 (e9 ▸ (List.mem_of_getElem? (i := 16) rfl))) List.not_mem_nil)))).trans hm.f_oj
theorem xe_share {D : LgD} {v : Int32} {x : Int32} : ∀ E, XC_share D v x E → E = "java/lang/IndexOutOfBoundsException" ∨ E = "java/lang/IllegalArgumentException" ∨ E = "java/lang/IllegalStateException" := fun E hE => by
  rcases hE with ⟨h9, _⟩ | ⟨h9, _⟩ | ⟨h9, _⟩
  · exact Or.inl h9
  · exact Or.inr (Or.inl h9)
  · exact Or.inr (Or.inr (h9))
theorem pj_says {a : LgA} {m : MdA} {g : GG} {t : Nat} {L : List Nat} {f : Nat → va_E} {D : LgD} {E : MdD} {x : Int32} {day : Int32} (h : SyB a m.l g t L f D) (hm : MoB m g L f D E) : ∀ r f1, PX_says a g L f D x day r f1 → f1 m.oj = eJ g 1 E.w := fun r f1 hp => by
  have hnv := h.hnv
  obtain ⟨_, rfl⟩ := hp
  exact hm.f_oj
theorem xe_says {D : LgD} {x : Int32} {day : Int32} : ∀ E, XC_says D x day E → E = "java/lang/IndexOutOfBoundsException" ∨ E = "java/lang/IllegalArgumentException" := fun E hE => by
  rcases hE with ⟨h9, _⟩ | ⟨h9, _⟩
  · exact Or.inl h9
  · exact Or.inr (h9)
theorem pj_told {a : LgA} {m : MdA} {g : GG} {t : Nat} {L : List Nat} {f : Nat → va_E} {D : LgD} {E : MdD} {x : Int32} {what : Int32} (h : SyB a m.l g t L f D) (hm : MoB m g L f D E) : ∀ r f1, PX_told a g L f D x what r f1 → f1 m.oj = eJ g 1 E.w := fun r f1 hp => by
  have hnv := h.hnv
  obtain ⟨_, rfl⟩ := hp
  exact hm.f_oj
theorem xe_told {D : LgD} {x : Int32} {what : Int32} : ∀ E, XC_told D x what E → E = "java/lang/IndexOutOfBoundsException" := fun E hE => by
  obtain ⟨h9, _⟩ := hE
  exact h9
theorem pj_weight {a : LgA} {m : MdA} {g : GG} {t : Nat} {L : List Nat} {f : Nat → va_E} {D : LgD} {E : MdD} {v : Int32} {x : Int32} (h : SyB a m.l g t L f D) (hm : MoB m g L f D E) : ∀ r f1, PX_weight a g L f D v x r f1 → f1 m.oj = eJ g 1 E.w := fun r f1 hp => by
  have hnv := h.hnv
  obtain ⟨_, rfl⟩ := hp
  exact hm.f_oj
theorem xe_weight {D : LgD} {v : Int32} {x : Int32} : ∀ E, XC_weight D v x E → E = "java/lang/IndexOutOfBoundsException" := fun E hE => by
  obtain ⟨h9, _⟩ := hE
  exact h9
theorem pj_about {a : LgA} {m : MdA} {g : GG} {t : Nat} {L : List Nat} {f : Nat → va_E} {D : LgD} {E : MdD} {v : Int32} {what : Int32} (h : SyB a m.l g t L f D) (hm : MoB m g L f D E) : ∀ r f1, PX_about a g L f D v what r f1 → f1 m.oj = eJ g 1 E.w := fun r f1 hp => by
  have hnv := h.hnv
  obtain ⟨u, k, _, _, _, _, _, _, hF⟩ := hp
  exact (hF m.oj (nm_c (fun e9 => h.m_sy (e9 ▸ (List.mem_of_getElem? (i := 16) rfl))) List.not_mem_nil)).trans hm.f_oj
theorem xe_about {D : LgD} {v : Int32} {what : Int32} : ∀ E, XC_about D v what E → E = "java/lang/IndexOutOfBoundsException" := fun E hE => by
  obtain ⟨h9, _⟩ := hE
  exact h9
theorem pj_at {a : LgA} {m : MdA} {g : GG} {t : Nat} {L : List Nat} {f : Nat → va_E} {D : LgD} {E : MdD} {pl_ : Int32} (h : SyB a m.l g t L f D) (hm : MoB m g L f D E) : ∀ r f1, PX_at a g L f D pl_ r f1 → f1 m.oj = eJ g 1 E.w := fun r f1 hp => by
  have hnv := h.hnv
  obtain ⟨_, rfl⟩ := hp
  exact hm.f_oj
theorem xe_at {D : LgD} {pl_ : Int32} : ∀ E, XC_at D pl_ E → E = "java/lang/IndexOutOfBoundsException" := fun E hE => by
  obtain ⟨h9, _⟩ := hE
  exact h9
theorem pj_count {a : LgA} {m : MdA} {g : GG} {t : Nat} {L : List Nat} {f : Nat → va_E} {D : LgD} {E : MdD} {what : Int32} (h : SyB a m.l g t L f D) (hm : MoB m g L f D E) : ∀ r f1, PX_count a g L f D what r f1 → f1 m.oj = eJ g 1 E.w := fun r f1 hp => by
  have hnv := h.hnv
  obtain ⟨k, _, _, _, _, hF⟩ := hp
  exact (hF m.oj (nm_c (fun e9 => h.m_sy (e9 ▸ (List.mem_of_getElem? (i := 16) rfl))) List.not_mem_nil)).trans hm.f_oj
theorem xe_count {D : LgD} {what : Int32} : ∀ E, XC_count D what E → E = "java/lang/IndexOutOfBoundsException" := fun E hE => by
  obtain ⟨h9, _⟩ := hE
  exact h9
theorem pj_pass {a : LgA} {m : MdA} {g : GG} {t : Nat} {L : List Nat} {f : Nat → va_E} {D : LgD} {E : MdD} {days : Int32} (h : SyB a m.l g t L f D) (hm : MoB m g L f D E) : ∀ r f1, PX_pass a g L f D days r f1 → f1 m.oj = eJ g 1 E.w := fun r f1 hp => by
  have hnv := h.hnv
  obtain ⟨k, _, _, _, _, _, _, _, hF⟩ := hp
  exact (hF m.oj (fun e9 => h.m_lo (e9 ▸ (List.mem_of_getElem? (i := 16) rfl))) (fun e9 => h.m_sy (e9 ▸ (List.mem_of_getElem? (i := 16) rfl))) (fun v hv => ⟨fun e9 => (h.m_ad v hv).1 (e9 ▸ (List.mem_of_getElem? (i := 16) rfl)), fun e9 => (h.m_ad v hv).2 (e9 ▸ (List.mem_of_getElem? (i := 16) rfl))⟩)).trans hm.f_oj
theorem xe_pass {D : LgD} {days : Int32} : ∀ E, XC_pass D days E → E = "java/lang/IllegalArgumentException" := fun E hE => by
  obtain ⟨h9, _⟩ := hE
  exact h9
theorem pj_foresee {a : LgA} {m : MdA} {g : GG} {t : Nat} {L : List Nat} {f : Nat → va_E} {D : LgD} {E : MdD} {days : Int32} {what : Int32} (h : SyB a m.l g t L f D) (hm : MoB m g L f D E) : ∀ r f1, PX_foresee a g L f D days what r f1 → f1 m.oj = eJ g 1 E.w := fun r f1 hp => by
  have hnv := h.hnv
  obtain ⟨k, w, _, _, _, _, _, _, _, _, _, _, hF⟩ := hp
  exact (hF m.oj (fun e9 => h.m_rt (e9 ▸ (List.mem_of_getElem? (i := 16) rfl))) (fun e9 => h.m_sy (e9 ▸ (List.mem_of_getElem? (i := 16) rfl))) (fun v hv => ⟨fun e9 => (h.m_td v hv).1 (e9 ▸ (List.mem_of_getElem? (i := 16) rfl)), fun e9 => (h.m_td v hv).2 (e9 ▸ (List.mem_of_getElem? (i := 16) rfl))⟩)).trans hm.f_oj
theorem xe_foresee {D : LgD} {days : Int32} {what : Int32} : ∀ E, XC_foresee D days what E → E = "java/lang/IllegalArgumentException" ∨ E = "java/lang/IndexOutOfBoundsException" := fun E hE => by
  rcases hE with ⟨h9, _⟩ | ⟨h9, _⟩
  · exact Or.inl h9
  · exact Or.inr (h9)
theorem pj_overtakes {a : LgA} {m : MdA} {g : GG} {t : Nat} {L : List Nat} {f : Nat → va_E} {D : LgD} {E : MdD} {v : Int32} {x : Int32} (h : SyB a m.l g t L f D) (hm : MoB m g L f D E) : ∀ r f1, PX_overtakes a g L f D v x r f1 → f1 m.oj = eJ g 1 E.w := fun r f1 hp => by
  have hnv := h.hnv
  obtain ⟨u, w, i, _, _, _, _, _, _, _, _, _, hF⟩ := hp
  exact (hF m.oj (fun e9 => h.m_rt (e9 ▸ (List.mem_of_getElem? (i := 16) rfl))) (fun e9 => h.m_sy (e9 ▸ (List.mem_of_getElem? (i := 16) rfl))) (fun v hv => ⟨fun e9 => (h.m_td v hv).1 (e9 ▸ (List.mem_of_getElem? (i := 16) rfl)), fun e9 => (h.m_td v hv).2 (e9 ▸ (List.mem_of_getElem? (i := 16) rfl))⟩)).trans hm.f_oj
theorem xe_overtakes {D : LgD} {v : Int32} {x : Int32} : ∀ E, XC_overtakes D v x E → E = "java/lang/IndexOutOfBoundsException" ∨ E = "java/lang/IllegalArgumentException" := fun E hE => by
  rcases hE with ⟨h9, _⟩ | ⟨h9, _⟩
  · exact Or.inl h9
  · exact Or.inr (h9)
theorem pj_advise {a : LgA} {m : MdA} {g : GG} {t : Nat} {L : List Nat} {f : Nat → va_E} {D : LgD} {E : MdD} {v : Int32} {x : Int32} (h : SyB a m.l g t L f D) (hm : MoB m g L f D E) : ∀ r f1, PX_advise a g L f D v x r f1 → f1 m.oj = eJ g 1 E.w := fun r f1 hp => by
  have hnv := h.hnv
  obtain ⟨u, k, _, _, _, _, _, _, _, _, _, hF⟩ := hp
  exact (hF m.oj (fun e9 => h.m_rt (e9 ▸ (List.mem_of_getElem? (i := 16) rfl))) (fun e9 => h.m_sy (e9 ▸ (List.mem_of_getElem? (i := 16) rfl))) (fun v hv => ⟨fun e9 => (h.m_td v hv).1 (e9 ▸ (List.mem_of_getElem? (i := 16) rfl)), fun e9 => (h.m_td v hv).2 (e9 ▸ (List.mem_of_getElem? (i := 16) rfl))⟩)).trans hm.f_oj
theorem xe_advise {D : LgD} {v : Int32} {x : Int32} : ∀ E, XC_advise D v x E → E = "java/lang/IndexOutOfBoundsException" ∨ E = "java/lang/IllegalArgumentException" := fun E hE => by
  rcases hE with ⟨h9, _⟩ | ⟨h9, _⟩
  · exact Or.inl h9
  · exact Or.inr (h9)
