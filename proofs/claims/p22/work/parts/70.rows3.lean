/-! ===== the law's rows: its own cells, writes to the league by hand ===== -/
def WDG (g : GG) (t lo : Nat) (b : SmA) (oc os : OB) (kv kw : Nat) (Lw : List Nat) (fw : Nat → va_E) (A : Nat → Prop) (H0 H : Heap) (locs : List Loc) : Prop := ∃ (a : LgA) (Lc : List Nat) (fc : Nat → va_E) (Ls : List Nat) (fs : Nat → va_E), a.lo = lo ∧ SyO a g t Lc fc oc ∧ SimG b g Ls fs os kv kw ∧ Lc.Nodup ∧ Ls.Nodup ∧ Lw.Nodup ∧ (∀ x ∈ Lc, x ∉ Ls) ∧ (∀ x ∈ Lc, x ∉ Lw) ∧ (∀ x ∈ Ls, x ∉ Lw) ∧ PP g Lc fc H ∧ PP g Ls fs H ∧ PP g Lw fw H ∧ (∀ x ∈ Lc, A x) ∧ (∀ x ∈ Ls, A x) ∧ (∀ x ∈ Lw, A x) ∧ va_S A H0 H locs
theorem WD.G {g : GG} {t lo : Nat} {b : SmA} {oc os : OB} {Lw : List Nat} {fw : Nat → va_E} {A : Nat → Prop} {H0 H : Heap} {locs : List Loc} (h : WD g t lo b oc os Lw fw A H0 H locs) : WDG g t lo b oc os os.nv os.nv Lw fw A H0 H locs := h
theorem WDG.O {g : GG} {t lo : Nat} {b : SmA} {oc os : OB} {Lw : List Nat} {fw : Nat → va_E} {A : Nat → Prop} {H0 H : Heap} {locs : List Loc} (h : WDG g t lo b oc os os.nv os.nv Lw fw A H0 H locs) : WD g t lo b oc os Lw fw A H0 H locs := h
theorem WDG.sub {g : GG} {t lo : Nat} {b : SmA} {oc os : OB} {kv kw : Nat} {Lw Lw2 : List Nat} {fw fw2 : Nat → va_E} {A : Nat → Prop} {H0 H : Heap} {locs : List Loc} (h : WDG g t lo b oc os kv kw Lw fw A H0 H locs) (hN : Lw2.Nodup) (hs : ∀ x ∈ Lw2, x ∈ Lw ∧ fw2 x = fw x) : WDG g t lo b oc os kv kw Lw2 fw2 A H0 H locs := by
  obtain ⟨a, Lc, fc, Ls, fs, hlo, hY, hM, hNc, hNs, hNw, dcs, dcw, dsw, hPc, hPs, hPw, hAc, hAs, hAw, hS⟩ := h
  exact ⟨a, Lc, fc, Ls, fs, hlo, hY, hM, hNc, hNs, hN, dcs, fun x hx z => dcw x hx (hs x z).1, fun x hx z => dsw x hx (hs x z).1, hPc, hPs, PP.of (fun b hb => by rw [(hs b hb).2]; exact hPw.at (hs b hb).1), hAc, hAs, fun x hx => hAw x (hs x hx).1, hS⟩
theorem WD.sub {g : GG} {t lo : Nat} {b : SmA} {oc os : OB} {Lw Lw2 : List Nat} {fw fw2 : Nat → va_E} {A : Nat → Prop} {H0 H : Heap} {locs : List Loc} (h : WD g t lo b oc os Lw fw A H0 H locs) (hN : Lw2.Nodup) (hs : ∀ x ∈ Lw2, x ∈ Lw ∧ fw2 x = fw x) : WD g t lo b oc os Lw2 fw2 A H0 H locs := WDG.O (h.G.sub hN hs)
theorem WD.drop {g : GG} {t lo : Nat} {b : SmA} {oc os : OB} {Lw : List Nat} {fw fw2 : Nat → va_E} {A : Nat → Prop} {H0 H : Heap} {locs : List Loc} (h : WD g t lo b oc os Lw fw A H0 H locs) : WD g t lo b oc os [] fw2 A H0 H locs := h.sub List.nodup_nil (fun _ z => absurd z List.not_mem_nil)
theorem WDG.Pw {g : GG} {t lo : Nat} {b : SmA} {oc os : OB} {kv kw : Nat} {Lw : List Nat} {fw : Nat → va_E} {A : Nat → Prop} {H0 H : Heap} {locs : List Loc} (h : WDG g t lo b oc os kv kw Lw fw A H0 H locs) : PP g Lw fw H := by
  obtain ⟨a, Lc, fc, Ls, fs, hlo, hY, hM, hNc, hNs, hNw, dcs, dcw, dsw, hPc, hPs, hPw, hAc, hAs, hAw, hS⟩ := h
  exact hPw
theorem WDG.Nw {g : GG} {t lo : Nat} {b : SmA} {oc os : OB} {kv kw : Nat} {Lw : List Nat} {fw : Nat → va_E} {A : Nat → Prop} {H0 H : Heap} {locs : List Loc} (h : WDG g t lo b oc os kv kw Lw fw A H0 H locs) : Lw.Nodup := by
  obtain ⟨a, Lc, fc, Ls, fs, hlo, hY, hM, hNc, hNs, hNw, dcs, dcw, dsw, hPc, hPs, hPw, hAc, hAs, hAw, hS⟩ := h
  exact hNw
/-- where the league by hand lies -/
theorem WDG.sim {g : GG} {t lo : Nat} {b : SmA} {oc os : OB} {kv kw : Nat} {Lw : List Nat} {fw : Nat → va_E} {A : Nat → Prop} {H0 H : Heap} {locs : List Loc} (h : WDG g t lo b oc os kv kw Lw fw A H0 H locs) : ∃ (Ls : List Nat) (fs : Nat → va_E), SimG b g Ls fs os kv kw ∧ PP g Ls fs H := by
  obtain ⟨a, Lc, fc, Ls, fs, hlo, hY, hM, hNc, hNs, hNw, dcs, dcw, dsw, hPc, hPs, hPw, hAc, hAs, hAw, hS⟩ := h
  exact ⟨Ls, fs, hM, hPs⟩
theorem WD.sim {g : GG} {t lo : Nat} {b : SmA} {oc os : OB} {Lw : List Nat} {fw : Nat → va_E} {A : Nat → Prop} {H0 H : Heap} {locs : List Loc} (h : WD g t lo b oc os Lw fw A H0 H locs) : ∃ (Ls : List Nat) (fs : Nat → va_E), SimO b g Ls fs os ∧ PP g Ls fs H := h.G.sim
/-- villages that say the same -/
def SameV (n : Nat) (vs vs2 : Nat → VV) : Prop := ∀ v, v < n → (∀ q, q < 3 → vr3 (vs v) q = vr3 (vs2 v) q) ∧ ∀ q, q < 8 → (vs v).2.2.2.2 q = (vs2 v).2.2.2.2 q
theorem SimO.cg {b : SmA} {g : GG} {L : List Nat} {f : Nat → va_E} {d n nv : Nat} {gl rn kd nu : Nat → Int32} {vs vs2 : Nat → VV} (h : SimO b g L f ((d, n, nv, gl, rn, kd, nu, vs) : OB)) (e : SameV nv vs vs2) : SimO b g L f ((d, n, nv, gl, rn, kd, nu, vs2) : OB) :=
  ⟨h.L_sm, h.f_sm, h.L_sg, h.f_sg, h.L_sr, h.f_sr, h.L_ss, h.f_ss, h.L_sv, h.f_sv, h.L_sw, h.f_sw, h.hSR, h.hVR.cg (fun j hj q hq => (e j hj).1 q hq), h.hWR.cg (fun j hj q hq => (e j hj).2 q hq), h.hIv, h.hIw, h.hgr⟩
theorem WD.cg {g : GG} {t lo : Nat} {b : SmA} {oc : OB} {d n nv : Nat} {gl rn kd nu : Nat → Int32} {vs vs2 : Nat → VV} {Lw : List Nat} {fw : Nat → va_E} {A : Nat → Prop} {H0 H : Heap} {locs : List Loc} (h : WD g t lo b oc ((d, n, nv, gl, rn, kd, nu, vs) : OB) Lw fw A H0 H locs) (e : SameV nv vs vs2) : WD g t lo b oc ((d, n, nv, gl, rn, kd, nu, vs2) : OB) Lw fw A H0 H locs := by
  obtain ⟨a, Lc, fc, Ls, fs, hlo, hY, hM, hNc, hNs, hNw, dcs, dcw, dsw, hPc, hPs, hPw, hAc, hAs, hAw, hS⟩ := h
  exact ⟨a, Lc, fc, Ls, fs, hlo, hY, hM.cg e, hNc, hNs, hNw, dcs, dcw, dsw, hPc, hPs, hPw, hAc, hAs, hAw, hS⟩
/-- writes to the league by hand, as its cells see them -/
def SimW (b : SmA) (g : GG) (os os2 : OB) (x j : Nat) (v : Int32) : Prop := ∀ (Ls : List Nat) (fs : Nat → va_E), SimO b g Ls fs os → ∃ (n : Nat) (h : Nat → Int32), x ∈ Ls ∧ fs x = eI g n h ∧ j < n ∧ n < 100 ∧ SimO b g Ls (va_up fs x (eI g n (upd h j v))) os2
theorem sw_glass {b : SmA} {g : GG} {os : OB} {j : Nat} {v : Int32} (hj : j < 12) : SimW b g os ((os.d, os.n, os.nv, upd os.gl j v, os.rn, os.kd, os.nu, os.vs) : OB) b.sg j v := fun Ls fs h => by
  have hF : Fr fs (va_up fs b.sg (eI g 12 (upd os.gl j v))) [b.sg] := Fr.rf.up (by simp)
  have n1 : ∀ {x : Nat} {e : va_E}, fs x = e → e ≠ eI g 12 os.gl → x ∉ [b.sg] := fun {x e} hx he => nm_c (ne_e hx h.f_sg he) List.not_mem_nil
  exact ⟨12, os.gl, h.L_sg, h.f_sg, hj, by omega, h.L_sm, hF.get h.f_sm (n1 h.f_sm (by simp)), h.L_sg, va_up_self _ _ _, h.L_sr, hF.get h.f_sr (nm_c h.hgr.symm List.not_mem_nil), h.L_ss, hF.get h.f_ss (n1 h.f_ss (by simp)), h.L_sv, hF.get h.f_sv (n1 h.f_sv (by simp)), h.L_sw, hF.get h.f_sw (n1 h.f_sw (by simp)), h.hSR.fr hF (fun z => by rw [h.f_sg]; simp), h.hVR.fr hF (fun z => by rw [h.f_sg]; simp), h.hWR.fr hF (fun z => by rw [h.f_sg]; simp), h.hIv, h.hIw, h.hgr⟩
theorem row_up {g : GG} {L : List Nat} {f : Nat → va_E} {m n : Nat} {fa : Nat → Nat} {h h2 : Nat → Nat → Int32} (k : RowsB g L f m n fa h) (hI : Inj n fa) {i j : Nat} (hi : i < n) {v : Int32} {z : Nat → Int32} (hz : f (fa i) = eI g m z) (hz2 : ∀ q, q < m → z q = h i q) (e1 : h2 i j = v) (e2 : ∀ q, q < m → q ≠ j → h2 i q = h i q) (e3 : ∀ u, u < n → u ≠ i → ∀ q, q < m → h u q = h2 u q) : RowsB g L (va_up f (fa i) (eI g m (upd z j v))) m n fa h2 :=
  k.set hI hi (Fr.rf.up (by simp)) (va_up_self _ _ _) (fun q hq => by
    by_cases e : q = j
    · subst e
      rw [pk_us, e1]
    · rw [pk_un e, hz2 q hq, e2 q hq e]) e3
theorem vr3_1 {V : VV} {x : Int32} (q : Nat) (hq : q < 3) (h : q ≠ 1) : vr3 (V.1, V.2.1, x, V.2.2.2.1, V.2.2.2.2) q = vr3 V q := by
  rcases (show q = 0 ∨ q = 2 by omega) with rfl | rfl <;> rfl
/-- a village's coins -/
def coV (V : VV) (x : Int32) : VV := (V.1, V.2.1, x, V.2.2.2.1, V.2.2.2.2)
theorem sw_coins {b : SmA} {g : GG} {os : OB} {i : Nat} {v : Int32} (hi : i < os.nv) : SimW b g os ((os.d, os.n, os.nv, os.gl, os.rn, os.kd, os.nu, fun u => if u = i then coV (os.vs i) v else os.vs u) : OB) (b.fv i) 1 v := fun Ls fs h => by
  obtain ⟨hL, z, hz, hz2⟩ := h.hVR i hi
  have hF : Fr fs (va_up fs (b.fv i) (eI g 3 (upd z 1 v))) [b.fv i] := Fr.rf.up (by simp)
  have n1 : ∀ {x : Nat} {e : va_E}, fs x = e → e ≠ eI g 3 z → x ∉ [b.fv i] := fun {x e} hx he => nm_c (ne_e hx hz he) List.not_mem_nil
  exact ⟨3, z, hL, hz, by omega, by omega, h.L_sm, hF.get h.f_sm (n1 h.f_sm (by simp)), h.L_sg, hF.get h.f_sg (n1 h.f_sg (by simp)), h.L_sr, hF.get h.f_sr (n1 h.f_sr (by simp)), h.L_ss, hF.get h.f_ss (n1 h.f_ss (by simp)), h.L_sv, hF.get h.f_sv (n1 h.f_sv (by simp)), h.L_sw, hF.get h.f_sw (n1 h.f_sw (by simp)), h.hSR.fr hF (fun z2 => by rw [hz]; simp), row_up h.hVR h.hIv hi hz hz2 (by dsimp only [OB.vs]; rw [if_pos rfl]; rfl) (fun q hq hne => by dsimp only [OB.vs]; rw [if_pos rfl]; exact vr3_1 q hq hne) (fun u _ hne q _ => by dsimp only [OB.vs]; rw [if_neg hne]), (h.hWR.fr hF (fun z2 => by rw [hz]; simp)).cg (fun j _ q _ => by dsimp only [OB.vs]; by_cases e : j = i; rw [if_pos e, e]; rfl; rw [if_neg e]), h.hIv, h.hIw, h.hgr⟩
theorem sw_wt {b : SmA} {g : GG} {os : OB} {i j : Nat} {v : Int32} (hi : i < os.nv) (hj : j < 8) : SimW b g os ((os.d, os.n, os.nv, os.gl, os.rn, os.kd, os.nu, fun u => if u = i then setW (os.vs i) (upd (os.vs i).2.2.2.2 j v) else os.vs u) : OB) (b.fw i) j v := fun Ls fs h => by
  obtain ⟨hL, z, hz, hz2⟩ := h.hWR i hi
  have hF : Fr fs (va_up fs (b.fw i) (eI g 8 (upd z j v))) [b.fw i] := Fr.rf.up (by simp)
  have n1 : ∀ {x : Nat} {e : va_E}, fs x = e → e ≠ eI g 8 z → x ∉ [b.fw i] := fun {x e} hx he => nm_c (ne_e hx hz he) List.not_mem_nil
  exact ⟨8, z, hL, hz, hj, by omega, h.L_sm, hF.get h.f_sm (n1 h.f_sm (by simp)), h.L_sg, hF.get h.f_sg (n1 h.f_sg (by simp)), h.L_sr, hF.get h.f_sr (n1 h.f_sr (by simp)), h.L_ss, hF.get h.f_ss (n1 h.f_ss (by simp)), h.L_sv, hF.get h.f_sv (n1 h.f_sv (by simp)), h.L_sw, hF.get h.f_sw (n1 h.f_sw (by simp)), h.hSR.fr hF (fun z2 => by rw [hz]; simp), (h.hVR.fr hF (fun z2 => by rw [hz]; simp)).cg (fun u _ q hq => by dsimp only [OB.vs]; by_cases e : u = i; rw [if_pos e, e]; rcases (show q = 0 ∨ q = 1 ∨ q = 2 by omega) with rfl | rfl | rfl <;> rfl; rw [if_neg e]), row_up h.hWR h.hIw hi hz hz2 (by dsimp only [OB.vs]; rw [if_pos rfl]; exact pk_us) (fun q hq hne => by dsimp only [OB.vs]; rw [if_pos rfl]; exact pk_un hne) (fun u _ hne q _ => by dsimp only [OB.vs]; rw [if_neg hne]), h.hIv, h.hIw, h.hgr⟩
section W3
variable {p : Program} {l : Launch} {e : Env} {R : Room} {s : State} {m : MethodId} {args : Array Value} {below : List Frame} {meth : Method} {c : Code} {H : Heap} {locs : List Loc} {cells slots : Nat} {Q : State → Prop}
variable {cc : ByteArray} {pc : Nat} {ls : Array Slot} {rest st0 : List Value} {g : GG} {L L0 Lw : List Nat} {f fw : Nat → va_E} {a t lo bb kv kw : Nat} {b : SmA} {oc os os2 : OB} {A : Nat → Prop} {H0 : Heap}
/-- a write to a row of the league by hand -/
theorem w_sst (hx : p.tables.exec = Jvm.exec) (hb : c.code = cc) (hK : KK g s) (hW : WD g t lo b oc os Lw fw A H0 H locs) {i v : Int32} {j : Nat} (hi : i = nI j) (hsw : SimW b g os os2 a j v) (hdg : decode cc pc = .ok (.iastore, 1))
    (kk : ∀ (H1 : Heap) (locs1 : List Loc), WD g t lo b oc os2 Lw fw A H0 H1 locs1 → W p l e R s m args below meth c H1 locs1 cells slots Q (F0 m (pc + 1) ls rest)) : W p l e R s m args below meth c H locs cells slots Q (F0 m pc ls (.int v :: .int i :: .ref a :: rest)) := by
  obtain ⟨a1, Lc, fc, Ls, fs, hlo, hY, hM, hNc, hNs, hNw, dcs, dcw, dsw, hPc, hPs, hPw, hAc, hAs, hAw, hS⟩ := hW
  obtain ⟨n, h, hL, hf, hj, hn, hM2⟩ := hsw Ls fs hM
  have dso : ∀ x ∈ Ls, x ∉ Lc ++ Lw := dj_app (dj_sym dcs) dsw
  refine pn_iast (j := j) hx hb hK (hPs.join (hPc.join hPw dcw) dso) (nd_app hNs (nd_app hNc hNw dcw) dso) (al_app hAs (al_app hAc hAw)) hS (List.mem_append.mpr (Or.inl hL)) ((jn_in hL).trans hf) hi hj (by omega) hdg (fun H1 locs1 hP1 hS1 => ?_)
  obtain ⟨h1, h2⟩ := PP.spl_up hP1 dso hL
  obtain ⟨h3, h4⟩ := PP.spl h2 dcw
  exact kk H1 locs1 ⟨a1, Lc, fc, Ls, _, hlo, hY, hM2, hNc, hNs, hNw, dcs, dcw, dsw, h3, h1, h4, hAc, hAs, hAw, hS1⟩
/-- a write to the rain of the league by hand -/
theorem w_rain (hx : p.tables.exec = Jvm.exec) (hb : c.code = cc) (hK : KK g s) (hW : WD g t lo b oc os Lw fw A H0 H locs) {i : Int32} {v : Bool} {j : Nat} (hi : i = nI j) (hj : j < 12) (hdg : decode cc pc = .ok (.bastore, 1))
    (kk : ∀ (H1 : Heap) (locs1 : List Loc), WD g t lo b oc ((os.d, os.n, os.nv, os.gl, upd os.rn j (b2i v), os.kd, os.nu, os.vs) : OB) Lw fw A H0 H1 locs1 → W p l e R s m args below meth c H1 locs1 cells slots Q (F0 m (pc + 1) ls rest)) : W p l e R s m args below meth c H locs cells slots Q (F0 m pc ls (.int (b2i v) :: .int i :: .ref b.sr :: rest)) := by
  obtain ⟨a1, Lc, fc, Ls, fs, hlo, hY, hM, hNc, hNs, hNw, dcs, dcw, dsw, hPc, hPs, hPw, hAc, hAs, hAw, hS⟩ := hW
  have dso : ∀ x ∈ Ls, x ∉ Lc ++ Lw := dj_app (dj_sym dcs) dsw
  refine pn_zast (j := j) hx hb hK (hPs.join (hPc.join hPw dcw) dso) (nd_app hNs (nd_app hNc hNw dcw) dso) (al_app hAs (al_app hAc hAw)) hS (List.mem_append.mpr (Or.inl hM.L_sr)) ((jn_in hM.L_sr).trans hM.f_sr) hi hj (by omega) (b2i_v v) hdg (fun H1 locs1 hP1 hS1 => ?_)
  obtain ⟨h1, h2⟩ := PP.spl_up hP1 dso hM.L_sr
  obtain ⟨h3, h4⟩ := PP.spl h2 dcw
  have hF : Fr fs (va_up fs b.sr (eZ g 12 (upd os.rn j (b2i v)))) [b.sr] := Fr.rf.up (by simp)
  have n1 : ∀ {x : Nat} {e : va_E}, fs x = e → e ≠ eZ g 12 os.rn → x ∉ [b.sr] := fun {x e} hx he => nm_c (ne_e hx hM.f_sr he) List.not_mem_nil
  have key : ∀ (fa : Nat → Nat) (m n : Nat) (h : Nat → Nat → Int32), m ≠ 12 → RowsB g Ls fs m n fa h → RowsB g Ls (va_up fs b.sr (eZ g 12 (upd os.rn j (b2i v)))) m n fa h := fun fa m n h hm k => k.fr hF (fun z => by rw [hM.f_sr]; intro q; simp at q; exact hm q.2.1.symm)
  exact kk H1 locs1 ⟨a1, Lc, fc, Ls, _, hlo, hY, ⟨hM.L_sm, hF.get hM.f_sm (n1 hM.f_sm (by simp)), hM.L_sg, hF.get hM.f_sg (nm_c hM.hgr List.not_mem_nil), hM.L_sr, va_up_self _ _ _, hM.L_ss, hF.get hM.f_ss (n1 hM.f_ss (by simp)), hM.L_sv, hF.get hM.f_sv (n1 hM.f_sv (by simp)), hM.L_sw, hF.get hM.f_sw (n1 hM.f_sw (by simp)), key _ _ _ _ (by omega) hM.hSR, key _ _ _ _ (by omega) hM.hVR, key _ _ _ _ (by omega) hM.hWR, hM.hIv, hM.hIw, hM.hgr⟩, hNc, hNs, hNw, dcs, dcw, dsw, h3, h1, h4, hAc, hAs, hAw, hS1⟩
/-- a write to a row of the law's own -/
theorem w_iast (hx : p.tables.exec = Jvm.exec) (hb : c.code = cc) (hK : KK g s) (hW : WDG g t lo b oc os kv kw Lw fw A H0 H locs) (hL : a ∈ Lw) {n : Nat} {h : Nat → Int32} (hf : fw a = eI g n h) {i v : Int32} {j : Nat} (hi : i = nI j) (hj : j < n) (hn : n < 2 ^ 31) (hdg : decode cc pc = .ok (.iastore, 1))
    (kk : ∀ (H1 : Heap) (locs1 : List Loc), WDG g t lo b oc os kv kw Lw (va_up fw a (eI g n (upd h j v))) A H0 H1 locs1 → W p l e R s m args below meth c H1 locs1 cells slots Q (F0 m (pc + 1) ls rest)) : W p l e R s m args below meth c H locs cells slots Q (F0 m pc ls (.int v :: .int i :: .ref a :: rest)) := by
  obtain ⟨a1, Lc, fc, Ls, fs, hlo, hY, hM, hNc, hNs, hNw, dcs, dcw, dsw, hPc, hPs, hPw, hAc, hAs, hAw, hS⟩ := hW
  have dwo : ∀ x ∈ Lw, x ∉ Lc ++ Ls := dj_app (dj_sym dcw) (dj_sym dsw)
  refine pn_iast (j := j) hx hb hK (hPw.join (hPc.join hPs dcs) dwo) (nd_app hNw (nd_app hNc hNs dcs) dwo) (al_app hAw (al_app hAc hAs)) hS (List.mem_append.mpr (Or.inl hL)) ((jn_in hL).trans hf) hi hj hn hdg (fun H1 locs1 hP1 hS1 => ?_)
  obtain ⟨h1, h2⟩ := PP.spl_up hP1 dwo hL
  obtain ⟨h3, h4⟩ := PP.spl h2 dcs
  exact kk H1 locs1 ⟨a1, Lc, fc, Ls, fs, hlo, hY, hM, hNc, hNs, hNw, dcs, dcw, dsw, h3, h4, h1, hAc, hAs, hAw, hS1⟩
theorem w_newI (hx : p.tables.exec = Jvm.exec) (hb : c.code = cc) (harr : (Cond.arrayClass .int).before args s = true) (hK : KK g s) (hA2 : ∀ q, H0.size ≤ q → A q) (hW : WDG g t lo b oc os kv kw Lw fw A H0 H locs) {n : Int32} {k : Nat} (hn : n = nI k) (hk : k < 1000) (hcells : cells + 1 ≤ R.cells) (hslots : slots + k ≤ R.slots) (hdg : decode cc pc = .ok (.newarray .int, 2))
    (kk : ∀ (q : Nat) (H1 : Heap), q ∉ Lw → WDG g t lo b oc os kv kw (q :: Lw) (va_up fw q (eI g k (fun _ => 0))) A H0 H1 locs → W p l e R s m args below meth c H1 locs (cells + 1) (slots + k) Q (F0 m (pc + 2) ls (.ref q :: rest))) : W p l e R s m args below meth c H locs cells slots Q (F0 m pc ls (.int n :: rest)) := by
  obtain ⟨a1, Lc, fc, Ls, fs, hlo, hY, hM, hNc, hNs, hNw, dcs, dcw, dsw, hPc, hPs, hPw, hAc, hAs, hAw, hS⟩ := hW
  have dwo : ∀ x ∈ Lw, x ∉ Lc ++ Ls := dj_app (dj_sym dcw) (dj_sym dsw)
  refine pg_newaI hx hb harr hK (hPw.join (hPc.join hPs dcs) dwo) (nd_app hNw (nd_app hNc hNs dcs) dwo) (al_app hAw (al_app hAc hAs)) hA2 hS hn hk hcells hslots hdg (fun q H1 hq hAq hP1 hS1 => ?_)
  obtain ⟨h1, h2⟩ := PP.spl_new hP1 dwo hq
  obtain ⟨h3, h4⟩ := PP.spl h2 dcs
  obtain ⟨q1, q2⟩ := app_out hq
  obtain ⟨q3, q4⟩ := app_out q2
  exact kk q H1 q1 ⟨a1, Lc, fc, Ls, fs, hlo, hY, hM, hNc, hNs, List.nodup_cons.mpr ⟨q1, hNw⟩, dcs, fun x hx z => (List.mem_cons.mp z).elim (fun e9 => q3 (e9 ▸ hx)) (dcw x hx), fun x hx z => (List.mem_cons.mp z).elim (fun e9 => q4 (e9 ▸ hx)) (dsw x hx), h3, h4, h1, hAc, hAs, fa_c hAq hAw, hS1⟩
end W3
