/-! ===== what holds in a method of the law; tables of rows among the law's own cells ===== -/
def LK (p : Program) (l : Launch) (s : State) (m : MethodId) (args : Array Value) (c : Code) (cod : ByteArray) (mx : Nat) (ws : List Cond) (own : String) (g : GG) (t : Nat) (L0 : List Nat) : Prop := p.tables.exec = Jvm.exec ∧ c.code = cod ∧ c.maxLocals = mx ∧ (∀ w ∈ ws, w.before args s = true) ∧ s.vm.findClass own = some m.cls ∧ KK g s ∧ ZZ L0 s.heap.size s ∧ DS t L0 s.heap.size s ∧ l.stackTraces = false
theorem LK.drawn {p : Program} {l : Launch} {s : State} {m : MethodId} {args : Array Value} {c : Code} {cod : ByteArray} {mx : Nat} {ws : List Cond} {own : String} {g : GG} {t : Nat} {L0 : List Nat} (C : LK p l s m args c cod mx ws own g t L0) (d : Drawn) : LK p l (s.setDrawn d) m args c cod mx ws own g t L0 := by
  obtain ⟨hx, hb, hml, hts, hown, hK, hZ, hDS, hst⟩ := C
  exact ⟨hx, hb, hml, fun w hw => (Cond.before_setDrawn args s d w).trans (hts w hw), hown, KK.same (s := s) (U := s.setDrawn d) rfl hK, ⟨vx_Zq.moved (u := s) (U := s.setDrawn d) (Vm.Alike.refl s.vm) hZ.1, vx_Zq.moved (u := s) (U := s.setDrawn d) (Vm.Alike.refl s.vm) hZ.2.1, fun q hq => (hZ.2.2 q hq).elim (fun z k => ⟨z, vk_R.same (u := s) (U := s.setDrawn d) rfl k⟩)⟩, ⟨va_Z.moved (u := s) (U := s.setDrawn d) (Vm.Alike.refl s.vm) hDS.1, va_T.moved (u := s) (U := s.setDrawn d) (Vm.Alike.refl s.vm) hDS.2⟩, hst⟩
def RowsK (g : GG) (L : List Nat) (f : Nat → va_E) (m n : Nat) (fa : Nat → Nat) (K : Nat → Nat → Prop) (h : Nat → Nat → Int32) : Prop := ∀ u, u < n → fa u ∈ L ∧ ∃ z, f (fa u) = eI g m z ∧ ∀ i, i < m → K u i → z i = h u i
/-- a table of n rows of m each at q; what K says of it is known -/
def TB (g : GG) (L : List Nat) (f : Nat → va_E) (q m n : Nat) (fa : Nat → Nat) (K : Nat → Nat → Prop) (h : Nat → Nat → Int32) : Prop := q ∈ L ∧ f q = eR g n (vilR fa n) ∧ Inj n fa ∧ RowsK g L f m n fa K h
theorem TB.grow {g : GG} {L L2 : List Nat} {f f2 : Nat → va_E} {q m n : Nat} {fa : Nat → Nat} {K : Nat → Nat → Prop} {h : Nat → Nat → Int32} (T : TB g L f q m n fa K h) (hs : ∀ x ∈ L, x ∈ L2 ∧ f2 x = f x) : TB g L2 f2 q m n fa K h :=
  ⟨(hs _ T.1).1, (hs _ T.1).2.trans T.2.1, T.2.2.1, fun u hu => by
    obtain ⟨a1, z, a2, a3⟩ := T.2.2.2 u hu
    exact ⟨(hs _ a1).1, z, (hs _ a1).2.trans a2, a3⟩⟩
theorem TB.keep {g : GG} {L : List Nat} {f f2 : Nat → va_E} {q m n a : Nat} {fa : Nat → Nat} {K : Nat → Nat → Prop} {h : Nat → Nat → Int32} (T : TB g L f q m n fa K h) (hF : ∀ x, x ≠ a → f2 x = f x) (ha : ∃ k z, f a = eI g k z) (hd : ∀ v, v < n → fa v ≠ a) : TB g L f2 q m n fa K h := by
  obtain ⟨k, z, e⟩ := ha
  refine ⟨T.1, (hF _ (ne_e T.2.1 e (by simp))).trans T.2.1, T.2.2.1, fun u hu => ?_⟩
  obtain ⟨a1, z, a2, a3⟩ := T.2.2.2 u hu
  exact ⟨a1, z, (hF _ (hd u hu)).trans a2, a3⟩
theorem TB.weak {g : GG} {L : List Nat} {f : Nat → va_E} {q m n : Nat} {fa : Nat → Nat} {K K2 : Nat → Nat → Prop} {h h2 : Nat → Nat → Int32} (T : TB g L f q m n fa K h) (hK : ∀ u i, u < n → i < m → K2 u i → K u i ∧ h u i = h2 u i) : TB g L f q m n fa K2 h2 :=
  ⟨T.1, T.2.1, T.2.2.1, fun u hu => by
    obtain ⟨a1, z, a2, a3⟩ := T.2.2.2 u hu
    exact ⟨a1, z, a2, fun i hi hk => (a3 i hi (hK u i hu hi hk).1).trans (hK u i hu hi hk).2⟩⟩
section TBR
variable {p : Program} {l : Launch} {e : Env} {R : Room} {s : State} {m : MethodId} {args : Array Value} {below : List Frame} {meth : Method} {c : Code} {H : Heap} {locs : List Loc} {cells slots : Nat} {Q : State → Prop}
variable {cc : ByteArray} {pc : Nat} {ls : Array Slot} {rest st0 : List Value} {g : GG} {L L0 Lw : List Nat} {f fw : Nat → va_E} {t lo bb kv kw : Nat} {b : SmA} {oc os : OB} {A : Nat → Prop} {H0 : Heap} {q mm n : Nat} {fa : Nat → Nat} {K : Nat → Nat → Prop} {h : Nat → Nat → Int32}
theorem w_tref (hx : p.tables.exec = Jvm.exec) (hb : c.code = cc) (hK : KK g s) (hW : WD g t lo b oc os Lw fw A H0 H locs) (T : TB g Lw fw q mm n fa K h) {i : Int32} {u : Nat} (hi : i = nI u) (hu : u < n) (hn : n < 2 ^ 31) (hdg : decode cc pc = .ok (.aaload, 1))
    (kk : W p l e R s m args below meth c H locs cells slots Q (F0 m (pc + 1) ls (.ref (fa u) :: rest))) : W p l e R s m args below meth c H locs cells slots Q (F0 m pc ls (.int i :: .ref q :: rest)) :=
  pn_rald hx hb hK hW.G.Pw T.1 T.2.1 hi hu hn (if_pos hu) hdg kk
theorem w_tld (hx : p.tables.exec = Jvm.exec) (hb : c.code = cc) (hK : KK g s) (hW : WD g t lo b oc os Lw fw A H0 H locs) (T : TB g Lw fw q mm n fa K h) {i : Int32} {u j : Nat} (hu : u < n) (hi : i = nI j) (hj : j < mm) (hn : mm < 2 ^ 31) (hk : K u j) (hdg : decode cc pc = .ok (.iaload, 1))
    (kk : W p l e R s m args below meth c H locs cells slots Q (F0 m (pc + 1) ls (.int (h u j) :: rest))) : W p l e R s m args below meth c H locs cells slots Q (F0 m pc ls (.int i :: .ref (fa u) :: rest)) := by
  obtain ⟨a1, z, a2, a3⟩ := T.2.2.2 u hu
  refine pn_iald hx hb hK hW.G.Pw a1 a2 hi hj hn hdg ?_
  rw [a3 j hj hk]
  exact kk
theorem w_tst (hx : p.tables.exec = Jvm.exec) (hb : c.code = cc) (hK : KK g s) (hW : WD g t lo b oc os Lw fw A H0 H locs) (T : TB g Lw fw q mm n fa K h) {i v : Int32} {u j : Nat} (hu : u < n) (hi : i = nI j) (hj : j < mm) (hn : mm < 2 ^ 31) (hv : v = h u j) {K2 : Nat → Nat → Prop} (hK2 : ∀ w i, w < n → i < mm → K2 w i → K w i ∨ (w = u ∧ i = j)) (hdg : decode cc pc = .ok (.iastore, 1))
    (kk : ∀ (H1 : Heap) (locs1 : List Loc) (fw2 : Nat → va_E), (∀ x, x ≠ fa u → fw2 x = fw x) → (∃ k z, fw (fa u) = eI g k z) → TB g Lw fw2 q mm n fa K2 h → WD g t lo b oc os Lw fw2 A H0 H1 locs1 → W p l e R s m args below meth c H1 locs1 cells slots Q (F0 m (pc + 1) ls rest)) : W p l e R s m args below meth c H locs cells slots Q (F0 m pc ls (.int v :: .int i :: .ref (fa u) :: rest)) := by
  obtain ⟨a1, z, a2, a3⟩ := T.2.2.2 u hu
  refine w_iast hx hb hK hW.G a1 a2 hi hj hn hdg (fun H1 locs1 hW1 => ?_)
  refine kk H1 locs1 _ (fun x hx => va_up_ne _ _ hx) ⟨_, _, a2⟩ ⟨T.1, (va_up_ne _ _ (ne_e T.2.1 a2 (by simp))).trans T.2.1, T.2.2.1, fun w hw => ?_⟩ hW1
  by_cases e9 : w = u
  · subst e9
    refine ⟨a1, _, va_up_self _ _ _, fun i hi hk => ?_⟩
    by_cases e8 : i = j
    · rw [e8, pk_us]; exact hv
    · rw [pk_un e8]
      exact a3 i hi ((hK2 w i hw hi hk).elim id (fun z => absurd z.2 e8))
  · obtain ⟨b1, y, b2, b3⟩ := T.2.2.2 w hw
    exact ⟨b1, y, (va_up_ne _ _ (T.2.2.1 w u hw hu e9)).trans b2, fun i hi hk => b3 i hi ((hK2 w i hw hi hk).elim id (fun z => absurd z.1 e9))⟩
set_option maxHeartbeats 4000000 in
theorem w_mna (hx : p.tables.exec = Jvm.exec) (hb : c.code = cc) {own : String} {index : Nat} (hown : s.vm.findClass own = some m.cls) (hclink : (Cond.classLink own index "[[I").before args s = true) (harr : (Cond.arrayClass .int).before args s = true) (hK : KK g s) (hA2 : ∀ q, H0.size ≤ q → A q) (hW : WD g t lo b oc os Lw fw A H0 H locs) {N M : Nat} (hN : N < 100) (hM : M < 100) (hcells : cells + (1 + N) ≤ R.cells) (hslots : slots + (N + N * M) ≤ R.slots) (hdg : decode cc pc = .ok (.multianewarray index 2, 4)) (h : Nat → Nat → Int32)
    (kk : ∀ (q : Nat) (r : Nat → Nat) (Lw2 : List Nat) (fw2 : Nat → va_E) (H1 : Heap), (∀ x ∈ Lw, x ∈ Lw2 ∧ fw2 x = fw x) → (∀ u, u < N → r u ∉ Lw) → TB g Lw2 fw2 q M N r (fun _ _ => False) h → WD g t lo b oc os Lw2 fw2 A H0 H1 locs → W p l e R s m args below meth c H1 locs (cells + 1 + N) (slots + N + N * M) Q (F0 m (pc + 4) ls (.ref q :: rest))) : W p l e R s m args below meth c H locs cells slots Q (F0 m pc ls (.int (nI M) :: .int (nI N) :: rest)) := by
  obtain ⟨a1, Lc, fc, Ls, fs, hlo, hY, hM1, hNc, hNs, hNw, dcs, dcw, dsw, hPc, hPs, hPw, hAc, hAs, hAw, hS⟩ := hW
  have dwo : ∀ x ∈ Lw, x ∉ Lc ++ Ls := dj_app (dj_sym dcw) (dj_sym dsw)
  have hP := hPw.join (hPc.join hPs dcs) dwo
  have hNN := nd_app hNw (nd_app hNc hNs dcs) dwo
  have hAA := al_app hAw (al_app hAc hAs)
  obtain ⟨LL, eLL⟩ : ∃ z, z = Lw ++ (Lc ++ Ls) := ⟨_, rfl⟩
  obtain ⟨ff, eff⟩ : ∃ z, z = jn Lw fw (jn Lc fc fs) := ⟨_, rfl⟩
  rw [← eLL] at hNN hAA
  rw [← eLL, ← eff] at hP
  have hP2 : va_P g.1 vwCl ([] ++ va_pl LL ff) H := hP
  have hD2 : va_D A ([] ++ va_pl LL ff) := DD_of hNN hAA
  refine va_mna (X := []) (ty := .int) (cy := gI g) (z := (M, .inl (fun _ => 0))) hx hb hown hclink hK.2.2.2.2 harr (hK.1.2 0 _ rfl).2 hK.1 hP2 hD2 hS hA2 (nI_pos (by omega)) (nI_pos (by omega)) (nI_clamp (by omega)) (nI_clamp (by omega)) (by omega) (by show M * 4 ≤ 536870912; omega) (by omega) rfl rfl hcells hslots (fun c9 => ?_) hdg (fun q r cA H1 hI hrL hK2 hP3 hD3 hS3 => ?_)
  · show ({ cls := c9, slots := Array.replicate M (.int 0), vm := .none } : Cell) = _
    rw [arrV_new]
    rfl
  · have e1 := RA_eq (g := g) (hK2.2 (gT g).length (cA, .array .int) (by simp)).2 (hK.1.2 4 _ rfl).2
    subst e1
    obtain ⟨rows, erows⟩ : ∃ z, z = (List.range N).map r := ⟨_, rfl⟩
    rw [← erows] at hP3 hD3
    have hmr : ∀ x, x ∈ rows ↔ ∃ u, u < N ∧ r u = x := fun x => by
      rw [erows, List.mem_map]
      exact ⟨fun ⟨u, h1, h2⟩ => ⟨u, List.mem_range.mp h1, h2⟩, fun ⟨u, h1, h2⟩ => ⟨u, List.mem_range.mpr h1, h2⟩⟩
    obtain ⟨f3, ef3⟩ : ∃ z, z = vr_up ff rows (.inl (gI g, (M, .inl (fun _ => 0))) : va_E) := ⟨_, rfl⟩
    rw [← ef3] at hP3 hD3
    have hat : ∀ x ∈ LL ++ rows, va_at g.1 vwCl (x, f3 x) H1 ∧ A x ∧ x ≠ q := fun x hx => by
      obtain ⟨k, hk⟩ := va_pl_get (X := [(q, (.inl (gR g, N, .inr (.inr (.inr (.inr (fun i => if i < N then some (r i) else none))))) : va_E))]) (f := f3) hx
      refine ⟨hP3 k _ hk, hD3.2 k _ hk, fun z => ?_⟩
      have h0 := hD3.1 k 0 _ _ hk rfl z
      subst h0
      have h1 : (q, (.inl (gR g, N, .inr (.inr (.inr (.inr (fun i => if i < N then some (r i) else none))))) : va_E)) = (x, f3 x) := Option.some.inj hk
      obtain ⟨k2, hk2⟩ := va_pl_get (X := []) (f := f3) hx
      have hk3 : ([(q, (.inl (gR g, N, .inr (.inr (.inr (.inr (fun i => if i < N then some (r i) else none))))) : va_E))] ++ va_pl (LL ++ rows) f3)[k2 + 1]? = some (x, f3 x) := hk2
      have h2 := hD3.1 (k2 + 1) 0 _ _ hk3 rfl z
      omega
    have hq0 : va_at g.1 vwCl (q, (.inl (gR g, N, .inr (.inr (.inr (.inr (fun i => if i < N then some (r i) else none))))) : va_E)) H1 := hP3 0 _ rfl
    have hAq : A q := hD3.2 0 _ rfl
    have hrn : ∀ x ∈ rows, x ∉ LL := fun x hx => by
      obtain ⟨u, h1, rfl⟩ := (hmr x).mp hx
      exact hrL u h1
    have hqn : q ∉ LL ++ rows := fun z => (hat q z).2.2 rfl
    have hNr : rows.Nodup := by
      rw [erows]
      unfold List.Nodup
      rw [List.pairwise_map]
      refine List.Pairwise.imp_of_mem ?_ (List.nodup_range (n := N))
      intro u v hu hv hne e9
      exact hne (hI u v (List.mem_range.mp hu) (List.mem_range.mp hv) e9)
    have f3o : ∀ x ∈ LL, f3 x = ff x := fun x hx => by rw [ef3]; exact vr_up_ne (fun z => hrn x z hx)
    have f3r : ∀ x ∈ rows, f3 x = eI g M (fun _ => 0) := fun x hx => by rw [ef3]; exact vr_up_in hx
    have mw : ∀ x ∈ Lw, x ∈ LL := fun x hx => by rw [eLL]; exact List.mem_append.mpr (Or.inl hx)
    have mc : ∀ x ∈ Lc, x ∈ LL := fun x hx => by rw [eLL]; exact List.mem_append.mpr (Or.inr (List.mem_append.mpr (Or.inl hx)))
    have ms : ∀ x ∈ Ls, x ∈ LL := fun x hx => by rw [eLL]; exact List.mem_append.mpr (Or.inr (List.mem_append.mpr (Or.inr hx)))
    have ml : ∀ x ∈ LL, x ∈ LL ++ rows := fun x hx => List.mem_append.mpr (Or.inl hx)
    have fe_w : ∀ x ∈ Lw, ff x = fw x := fun x hx => by rw [eff]; exact jn_in hx
    have fe_c : ∀ x ∈ Lc, ff x = fc x := fun x hx => by rw [eff, jn_out (dcw x hx)]; exact jn_in hx
    have fe_s : ∀ x ∈ Ls, ff x = fs x := fun x hx => by rw [eff, jn_out (dsw x hx), jn_out (fun z => dcs x z hx)]
    have nq : ∀ x ∈ LL ++ rows, x ≠ q := fun x hx => (hat x hx).2.2
    obtain ⟨f4, ef4⟩ : ∃ z, z = va_up f3 q (eR g N (vilR r N)) := ⟨_, rfl⟩
    have f4q : f4 q = eR g N (vilR r N) := by rw [ef4]; exact va_up_self _ _ _
    have f4o : ∀ x ∈ LL ++ rows, f4 x = f3 x := fun x hx => by rw [ef4]; exact va_up_ne _ _ (nq x hx)
    refine kk q r (q :: (Lw ++ rows)) f4 H1 (fun x hx => ⟨List.mem_cons_of_mem _ (List.mem_append.mpr (Or.inl hx)), (f4o x (ml x (mw x hx))).trans ((f3o x (mw x hx)).trans (fe_w x hx))⟩) (fun u hu z => hrL u hu (mw _ z)) ⟨List.mem_cons_self, f4q, fun u v hu hv hne e9 => hne (hI u v hu hv e9), fun u hu => ⟨List.mem_cons_of_mem _ (List.mem_append.mpr (Or.inr ((hmr _).mpr ⟨u, hu, rfl⟩))), fun _ => 0, (f4o _ (List.mem_append.mpr (Or.inr ((hmr _).mpr ⟨u, hu, rfl⟩)))).trans (f3r _ ((hmr _).mpr ⟨u, hu, rfl⟩)), fun _ _ h9 => h9.elim⟩⟩ ?_
    refine ⟨a1, Lc, fc, Ls, fs, hlo, hY, hM1, hNc, hNs, List.nodup_cons.mpr ⟨fun z => hqn ((List.mem_append.mp z).elim (fun h9 => ml _ (mw _ h9)) (fun h9 => List.mem_append.mpr (Or.inr h9))), nd_app hNw hNr (fun x hx z => hrn x z (mw x hx))⟩, dcs, fun x hx z => ?_, fun x hx z => ?_, PP.of (fun x hx => ?_), PP.of (fun x hx => ?_), PP.of (fun x hx => ?_), hAc, hAs, fun x hx => ?_, hS3⟩
    · rcases List.mem_cons.mp z with rfl | z
      · exact hqn (ml _ (mc _ hx))
      · exact (List.mem_append.mp z).elim (dcw x hx) (fun h9 => hrn x h9 (mc x hx))
    · rcases List.mem_cons.mp z with rfl | z
      · exact hqn (ml _ (ms _ hx))
      · exact (List.mem_append.mp z).elim (dsw x hx) (fun h9 => hrn x h9 (ms x hx))
    · have h9 := (hat x (ml x (mc x hx))).1
      rw [f3o x (mc x hx), fe_c x hx] at h9
      exact h9
    · have h9 := (hat x (ml x (ms x hx))).1
      rw [f3o x (ms x hx), fe_s x hx] at h9
      exact h9
    · rcases List.mem_cons.mp hx with rfl | hx
      · rw [f4q]; exact hq0
      · have hx2 : x ∈ LL ++ rows := (List.mem_append.mp hx).elim (fun h9 => ml _ (mw _ h9)) (fun h9 => List.mem_append.mpr (Or.inr h9))
        rw [f4o x hx2]
        exact (hat x hx2).1
    · rcases List.mem_cons.mp hx with rfl | hx
      · exact hAq
      · have hx2 : x ∈ LL ++ rows := (List.mem_append.mp hx).elim (fun h9 => ml _ (mw _ h9)) (fun h9 => List.mem_append.mpr (Or.inr h9))
        exact (hat x hx2).2.1
end TBR
